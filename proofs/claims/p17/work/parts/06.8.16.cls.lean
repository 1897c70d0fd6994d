def f_X8_isOperand (v7_2 : Int32) (v4_2 : Int32) (v4_8 : Int32) (p1 : Int32) (p2 : Int32) : Option (Int32) := if p1 = (16 : Int32) then some 1 else if p1 = (17 : Int32) then some 1 else if p1 = (18 : Int32) then (f_X7_isType v7_2 p2) >>= (fun r_4 => if r_4 = (0 : Int32) then some 0 else (f_X7_widthOf p2) >>= (fun r_6 => if r_6 = (1 : Int32) then some 1 else some 0)) else if p1 = (20 : Int32) then (f_X7_isType v7_2 p2) >>= (fun r_9 => if r_9 = (0 : Int32) then some 0 else (f_X7_widthOf p2) >>= (fun r_11 => if r_11 = (2 : Int32) then some 1 else some 0)) else if p1 = (178 : Int32) then if p2 < (0 : Int32) then some 0 else if v4_2 ≤ p2 then some 0 else some 1 else if p1 = (179 : Int32) then if p2 < (0 : Int32) then some 0 else if v4_2 ≤ p2 then some 0 else some 1 else if p1 = (180 : Int32) then if p2 < (0 : Int32) then some 0 else if v4_2 ≤ p2 then some 0 else some 1 else if p1 = (181 : Int32) then if p2 < (0 : Int32) then some 0 else if v4_2 ≤ p2 then some 0 else some 1 else if p1 = (182 : Int32) then if p2 < (0 : Int32) then some 0 else if v4_8 ≤ p2 then some 0 else some 1 else if p1 = (183 : Int32) then if p2 < (0 : Int32) then some 0 else if v4_8 ≤ p2 then some 0 else some 1 else if p1 = (184 : Int32) then if p2 < (0 : Int32) then some 0 else if v4_8 ≤ p2 then some 0 else some 1 else if p1 = (185 : Int32) then if p2 < (0 : Int32) then some 0 else if v4_8 ≤ p2 then some 0 else some 1 else if p1 = (186 : Int32) then if p2 < (0 : Int32) then some 0 else if v4_8 ≤ p2 then some 0 else some 1 else if p1 = (187 : Int32) then (f_X7_isClass v7_2 p2) >>= (fun r_41 => some r_41) else if p1 = (188 : Int32) then if p2 < (0 : Int32) then some 0 else if (7 : Int32) < p2 then some 0 else some 1 else if p1 = (189 : Int32) then (f_X7_isReference v7_2 p2) >>= (fun r_46 => if r_46 = (0 : Int32) then some 0 else (f_X7_dimensionsOf p2) >>= (fun r_48 => if (255 : Int32) ≤ r_48 then some 0 else some 1)) else if p1 = (192 : Int32) then (f_X7_isReference v7_2 p2) >>= (fun r_51 => some r_51) else if p1 = (193 : Int32) then (f_X7_isReference v7_2 p2) >>= (fun r_53 => some r_53) else (f_X0_isOpcode p1) >>= (fun r_54 => if r_54 = (0 : Int32) then some 0 else if p2 = (0 : Int32) then some 1 else if p2 ≤ (0 : Int32) then some 0 else (f_X0_isOfLocal p1) >>= (fun r_58 => if r_58 = (0 : Int32) then (f_X0_isJump p1) >>= (fun r_60 => if r_60 = (0 : Int32) then some 0 else some 1) else some 1))
theorem i_X8_isOperand_X4 : ∀ w ∈ wsX40, w ∈ wsX8_isOperand := fun _ h => List.mem_cons_of_mem _ (List.mem_append_left _ (List.mem_append_right _ h))
theorem i_X8_isOperand_X8 : ∀ w ∈ wsX80, w ∈ wsX8_isOperand := fun _ h => List.mem_cons_of_mem _ (List.mem_append_left _ (List.mem_append_left _ (List.mem_append_right _ h)))
set_option maxHeartbeats 4000000 in
set_option maxRecDepth 100000 in
theorem c_X8_isOperand (l : Launch) (dC : Nat → ClassId) (dI : Nat → Nat → Nat) (cyI cyZ cyJ : ClassId) (sz : Nat) (o8 : Nat) (o7 : Nat) (o4 : Nat) (o0 : Nat) (o1 : Nat) (o3 : Nat) (o2 : Nat) (a7_0 : Nat) (a7_1 : Nat) (v7_2 : Int32) (a4_0 : Nat) (a4_1 : Nat) (v4_2 : Int32) (a4_3 : Nat) (a4_4 : Nat) (a4_5 : Nat) (a4_6 : Nat) (a4_7 : Nat) (v4_8 : Int32) (p1 : Int32) (p2 : Int32) (R : Int32) (hf : f_X8_isOperand v7_2 v4_2 v4_8 p1 p2 = some R) : Met l yX8_isOperand wsX8_isOperand ({ frames := 3, cells := 0, slots := 0, locals := 63 }) (va_Pc [.ref o8, .int p1, .int p2] (x_Pre (dC, dI) (x_T cyI cyZ cyJ) [(o8, .inr (8, [.ref o7, .ref o4, .ref o0, .ref o1, .ref o3, .ref o2])), (o7, .inr (7, [.ref a7_0, .ref a7_1, .int v7_2])), (o4, .inr (4, [.ref a4_0, .ref a4_1, .int v4_2, .ref a4_3, .ref a4_4, .ref a4_5, .ref a4_6, .ref a4_7, .int v4_8]))] sz)) (va_Qi (fun (r : Int32) (_ : Unit) => r = R ∧ x_nb r) (fun _ _ => True) (x_new sz)) 0 0 (x_new sz) := by
  refine Met.ofW (cc := cX8_isOperand) (maxL := 3) (ret := (some .boolean)) (by decide) rfl ?_
  intro p e s m args below meth c s₁ B hml hv
  obtain ⟨rfl, hsz, hP, hK, hN⟩ := hv
  have hx := B.exec
  have hb := B.bytes
  have hr := B.returns
  have hts := atoms_spec (ws := wsX8_isOperand) B.pre
  have hown : s.vm.findClass RX8 = some m.cls := findClass_of_methodNamed B.named
  have k_1 := hts (.fieldLink RX8 10 "FlowJudge" "types" "LFlowJudge$Types;") (by decide +kernel)
  have k_2 := hts (.fieldLink RX8 19 "FlowJudge" "members" "LFlowJudge$Members;") (by decide +kernel)
  subst hsz
  have hA : ∀ q : Nat, s.heap.size ≤ q → x_new s.heap.size q := fun _ h => h
  have hS : va_S (x_new s.heap.size) s.heap s.heap [] := va_S.rf
  have hP : va_P (dC, dI) vwCl [(o8, .inr (8, [.ref o7, .ref o4, .ref o0, .ref o1, .ref o3, .ref o2])), (o7, .inr (7, [.ref a7_0, .ref a7_1, .int v7_2])), (o4, .inr (4, [.ref a4_0, .ref a4_1, .int v4_2, .ref a4_3, .ref a4_4, .ref a4_5, .ref a4_6, .ref a4_7, .int v4_8]))] s.heap := hP
  have hl := lv_entry ([.ref o8, .int p1, .int p2]) (n := 3) (Nat.le_of_ble_eq_true rfl)
  rw [lg_entry_eq]
  generalize (lg_sl ([.ref o8, .int p1, .int p2]) ++ List.replicate (3 - (lg_sl ([.ref o8, .int p1, .int p2])).length) Slot.unset).toArray = ls at hl ⊢
  have hl : lv_has ls 3 [(0, .ref o8), (1, .int p1), (2, .int p2)] := hl
  obtain ⟨H, hH⟩ : ∃ z, z = s.heap := ⟨_, rfl⟩
  refine x_here hH ?_
  have hP : va_P (dC, dI) vwCl [(o8, .inr (8, [.ref o7, .ref o4, .ref o0, .ref o1, .ref o3, .ref o2])), (o7, .inr (7, [.ref a7_0, .ref a7_1, .int v7_2])), (o4, .inr (4, [.ref a4_0, .ref a4_1, .int v4_2, .ref a4_3, .ref a4_4, .ref a4_5, .ref a4_6, .ref a4_7, .int v4_8]))] H := by rw [hH]; exact hP
  have hS : va_S (x_new s.heap.size) s.heap H [] := by rw [hH]; exact va_S.rf
  clear hH
  obtain ⟨locs, hlo⟩ : ∃ z : List Loc, z = [] := ⟨_, rfl⟩
  refine x_herl hlo ?_
  have hS : va_S (x_new s.heap.size) s.heap H locs := by rw [hlo]; exact hS
  clear hlo
  unfold f_X8_isOperand at hf
  refine lv_iload_n hx hb dX8_isOperand_0 rfl (lv_at hl 1 rfl) ?_
  rcases Classical.em (p1 = 16) with c_1 | c_1
  · refine lv_lookup (off := 155) (tgt := 156) hx hb dX8_isOperand_1 (by decide) (by rw [c_1]; decide) (by decide) ?_
    replace hf := x_ip c_1 hf
    refine lv_iconst (v := 1) hx hb dX8_isOperand_156 (by decide) ?_
    obtain rfl := Option.some.inj hf
    exact W.zret (ty := .boolean) hx hb hr rfl (fun t ht hW => ⟨⟨_, (), rfl, ⟨rfl, rfl⟩, trivial⟩, hS.F ht⟩) hS.2.2 dX8_isOperand_157
  replace hf := x_in c_1 hf
  rcases Classical.em (p1 = 17) with c_2 | c_2
  · refine lv_lookup (off := 155) (tgt := 156) hx hb dX8_isOperand_1 (by decide) (by rw [c_2]; decide) (by decide) ?_
    replace hf := x_ip c_2 hf
    refine lv_iconst (v := 1) hx hb dX8_isOperand_156 (by decide) ?_
    obtain rfl := Option.some.inj hf
    exact W.zret (ty := .boolean) hx hb hr rfl (fun t ht hW => ⟨⟨_, (), rfl, ⟨rfl, rfl⟩, trivial⟩, hS.F ht⟩) hS.2.2 dX8_isOperand_157
  replace hf := x_in c_2 hf
  rcases Classical.em (p1 = 18) with c_3 | c_3
  · refine lv_lookup (off := 157) (tgt := 158) hx hb dX8_isOperand_1 (by decide) (by rw [c_3]; decide) (by decide) ?_
    replace hf := x_ip c_3 hf
    refine lv_aload_n hx hb dX8_isOperand_158 rfl (lv_at hl 0 rfl) ?_
    refine va_get (D := (dC, dI)) (ci := 8) (v := .ref o7) (C := RX8) (T := TX8) (N := 6) hx hb hts i_X8_isOperand_X8 hown hK hP 0 rfl rfl 0 (by decide) k_1 (fun _ h9 => h9) rfl dX8_isOperand_159 ?_
    refine lv_iload_n hx hb dX8_isOperand_162 rfl (lv_at hl 2 rfl) ?_
    obtain ⟨r_4, h_4, hf⟩ := x_bi hf
    have hPc := hP.sub (ws' := [(o7, .inr (7, [.ref a7_0, .ref a7_1, .int v7_2]))]) [1] rfl
    refine va_calli (va_runV (As := [.int p2]) (rest := []) ⟨hx, hb, hml, hown, hts⟩ (c_X7_isType l dC dI cyI cyZ cyJ H.size o7 a7_0 a7_1 v7_2 p2 r_4 h_4) (cwV 1 hts gX8_isOperand_X7_isType rfl rfl rfl (by decide +kernel) ⟨Nat.le_of_ble_eq_true rfl, Nat.le_of_ble_eq_true rfl⟩) (x_pV hN hK hPc (ci := 7) (q0 := 0) rfl rfl) rfl rfl hl.1 rfl (lv_room (Nat.le_of_ble_eq_true rfl)) dX8_isOperand_163 ⟨Nat.le_of_ble_eq_true rfl, Nat.le_of_ble_eq_true rfl⟩) hS x_nA (x_nf hA hS) (fun q_4 u t H1 locs ht hvm hw hB hz1 hk1 hS => ?_)
    have hP := x_kp hP hk1
    clear ht hvm hB hz1 hk1 t u hPc
    generalize H1 = H at hP hS ⊢
    obtain ⟨hw, b_4⟩ := hw
    obtain rfl := hw.symm
    refine lv_if_eq (tgt := 181) hx hb dX8_isOperand_166 (by decide) (fun c_5 => ?_) (fun c_5 => ?_)
    · replace hf := x_ip c_5 hf
      refine lv_iconst (v := 0) hx hb dX8_isOperand_181 (by decide) ?_
      obtain rfl := Option.some.inj hf
      exact W.zret (ty := .boolean) hx hb hr rfl (fun t ht hW => ⟨⟨_, (), rfl, ⟨rfl, rfl⟩, trivial⟩, hS.F ht⟩) hS.2.2 dX8_isOperand_182
    · replace hf := x_in c_5 hf
      refine lv_iload_n hx hb dX8_isOperand_169 rfl (lv_at hl 2 rfl) ?_
      obtain ⟨r_6, h_6, hf⟩ := x_bi hf
      have hPc := hP.sub (ws' := []) [] rfl
      refine va_calli (va_runS (As := [.int p2]) (rest := []) ⟨hx, hb, hml, hown, hts⟩ (c_X7_widthOf l dC dI cyI cyZ cyJ H.size p2 r_6 h_6) (va_cwS 1 hts gX8_isOperand_X7_widthOf rfl rfl rfl (by decide +kernel) ⟨Nat.le_of_ble_eq_true rfl, Nat.le_of_ble_eq_true rfl⟩) (x_pS hN hK hPc) rfl rfl hl.1 rfl (lv_room (Nat.le_of_ble_eq_true rfl)) dX8_isOperand_170 ⟨Nat.le_of_ble_eq_true rfl, Nat.le_of_ble_eq_true rfl⟩) hS x_nA (x_nf hA hS) (fun q_6 u t H1 locs ht hvm hw hB hz1 hk1 hS => ?_)
      have hP := x_kp hP hk1
      clear ht hvm hB hz1 hk1 t u hPc
      generalize H1 = H at hP hS ⊢
      obtain rfl := hw.symm
      refine lv_iconst (v := 1) hx hb dX8_isOperand_173 (by decide) ?_
      refine lv_icmp_ne (tgt := 181) hx hb dX8_isOperand_174 (by decide) (fun c_7 => ?_) (fun c_7 => ?_)
      · replace hf := x_in c_7 hf
        refine lv_iconst (v := 0) hx hb dX8_isOperand_181 (by decide) ?_
        obtain rfl := Option.some.inj hf
        exact W.zret (ty := .boolean) hx hb hr rfl (fun t ht hW => ⟨⟨_, (), rfl, ⟨rfl, rfl⟩, trivial⟩, hS.F ht⟩) hS.2.2 dX8_isOperand_182
      · replace hf := x_ip c_7 hf
        refine lv_iconst (v := 1) hx hb dX8_isOperand_177 (by decide) ?_
        refine lv_goto (tgt := 182) hx hb dX8_isOperand_178 (by decide) ?_
        obtain rfl := Option.some.inj hf
        exact W.zret (ty := .boolean) hx hb hr rfl (fun t ht hW => ⟨⟨_, (), rfl, ⟨rfl, rfl⟩, trivial⟩, hS.F ht⟩) hS.2.2 dX8_isOperand_182
  replace hf := x_in c_3 hf
  rcases Classical.em (p1 = 20) with c_8 | c_8
  · refine lv_lookup (off := 182) (tgt := 183) hx hb dX8_isOperand_1 (by decide) (by rw [c_8]; decide) (by decide) ?_
    replace hf := x_ip c_8 hf
    refine lv_aload_n hx hb dX8_isOperand_183 rfl (lv_at hl 0 rfl) ?_
    refine va_get (D := (dC, dI)) (ci := 8) (v := .ref o7) (C := RX8) (T := TX8) (N := 6) hx hb hts i_X8_isOperand_X8 hown hK hP 0 rfl rfl 0 (by decide) k_1 (fun _ h9 => h9) rfl dX8_isOperand_184 ?_
    refine lv_iload_n hx hb dX8_isOperand_187 rfl (lv_at hl 2 rfl) ?_
    obtain ⟨r_9, h_9, hf⟩ := x_bi hf
    have hPc := hP.sub (ws' := [(o7, .inr (7, [.ref a7_0, .ref a7_1, .int v7_2]))]) [1] rfl
    refine va_calli (va_runV (As := [.int p2]) (rest := []) ⟨hx, hb, hml, hown, hts⟩ (c_X7_isType l dC dI cyI cyZ cyJ H.size o7 a7_0 a7_1 v7_2 p2 r_9 h_9) (cwV 1 hts gX8_isOperand_X7_isType rfl rfl rfl (by decide +kernel) ⟨Nat.le_of_ble_eq_true rfl, Nat.le_of_ble_eq_true rfl⟩) (x_pV hN hK hPc (ci := 7) (q0 := 0) rfl rfl) rfl rfl hl.1 rfl (lv_room (Nat.le_of_ble_eq_true rfl)) dX8_isOperand_188 ⟨Nat.le_of_ble_eq_true rfl, Nat.le_of_ble_eq_true rfl⟩) hS x_nA (x_nf hA hS) (fun q_9 u t H1 locs ht hvm hw hB hz1 hk1 hS => ?_)
    have hP := x_kp hP hk1
    clear ht hvm hB hz1 hk1 t u hPc
    generalize H1 = H at hP hS ⊢
    obtain ⟨hw, b_9⟩ := hw
    obtain rfl := hw.symm
    refine lv_if_eq (tgt := 206) hx hb dX8_isOperand_191 (by decide) (fun c_10 => ?_) (fun c_10 => ?_)
    · replace hf := x_ip c_10 hf
      refine lv_iconst (v := 0) hx hb dX8_isOperand_206 (by decide) ?_
      obtain rfl := Option.some.inj hf
      exact W.zret (ty := .boolean) hx hb hr rfl (fun t ht hW => ⟨⟨_, (), rfl, ⟨rfl, rfl⟩, trivial⟩, hS.F ht⟩) hS.2.2 dX8_isOperand_207
    · replace hf := x_in c_10 hf
      refine lv_iload_n hx hb dX8_isOperand_194 rfl (lv_at hl 2 rfl) ?_
      obtain ⟨r_11, h_11, hf⟩ := x_bi hf
      have hPc := hP.sub (ws' := []) [] rfl
      refine va_calli (va_runS (As := [.int p2]) (rest := []) ⟨hx, hb, hml, hown, hts⟩ (c_X7_widthOf l dC dI cyI cyZ cyJ H.size p2 r_11 h_11) (va_cwS 1 hts gX8_isOperand_X7_widthOf rfl rfl rfl (by decide +kernel) ⟨Nat.le_of_ble_eq_true rfl, Nat.le_of_ble_eq_true rfl⟩) (x_pS hN hK hPc) rfl rfl hl.1 rfl (lv_room (Nat.le_of_ble_eq_true rfl)) dX8_isOperand_195 ⟨Nat.le_of_ble_eq_true rfl, Nat.le_of_ble_eq_true rfl⟩) hS x_nA (x_nf hA hS) (fun q_11 u t H1 locs ht hvm hw hB hz1 hk1 hS => ?_)
      have hP := x_kp hP hk1
      clear ht hvm hB hz1 hk1 t u hPc
      generalize H1 = H at hP hS ⊢
      obtain rfl := hw.symm
      refine lv_iconst (v := 2) hx hb dX8_isOperand_198 (by decide) ?_
      refine lv_icmp_ne (tgt := 206) hx hb dX8_isOperand_199 (by decide) (fun c_12 => ?_) (fun c_12 => ?_)
      · replace hf := x_in c_12 hf
        refine lv_iconst (v := 0) hx hb dX8_isOperand_206 (by decide) ?_
        obtain rfl := Option.some.inj hf
        exact W.zret (ty := .boolean) hx hb hr rfl (fun t ht hW => ⟨⟨_, (), rfl, ⟨rfl, rfl⟩, trivial⟩, hS.F ht⟩) hS.2.2 dX8_isOperand_207
      · replace hf := x_ip c_12 hf
        refine lv_iconst (v := 1) hx hb dX8_isOperand_202 (by decide) ?_
        refine lv_goto (tgt := 207) hx hb dX8_isOperand_203 (by decide) ?_
        obtain rfl := Option.some.inj hf
        exact W.zret (ty := .boolean) hx hb hr rfl (fun t ht hW => ⟨⟨_, (), rfl, ⟨rfl, rfl⟩, trivial⟩, hS.F ht⟩) hS.2.2 dX8_isOperand_207
  replace hf := x_in c_8 hf
  rcases Classical.em (p1 = 178) with c_13 | c_13
  · refine lv_lookup (off := 207) (tgt := 208) hx hb dX8_isOperand_1 (by decide) (by rw [c_13]; decide) (by decide) ?_
    replace hf := x_ip c_13 hf
    refine lv_iload_n hx hb dX8_isOperand_208 rfl (lv_at hl 2 rfl) ?_
    refine lv_if_lt (tgt := 227) hx hb dX8_isOperand_209 (by decide) (fun c_14 => ?_) (fun c_14 => ?_)
    · replace hf := x_ip c_14 hf
      refine lv_iconst (v := 0) hx hb dX8_isOperand_227 (by decide) ?_
      obtain rfl := Option.some.inj hf
      exact W.zret (ty := .boolean) hx hb hr rfl (fun t ht hW => ⟨⟨_, (), rfl, ⟨rfl, rfl⟩, trivial⟩, hS.F ht⟩) hS.2.2 dX8_isOperand_228
    · replace hf := x_in c_14 hf
      refine lv_iload_n hx hb dX8_isOperand_212 rfl (lv_at hl 2 rfl) ?_
      refine lv_aload_n hx hb dX8_isOperand_213 rfl (lv_at hl 0 rfl) ?_
      refine va_get (D := (dC, dI)) (ci := 8) (v := .ref o4) (C := RX8) (T := TX8) (N := 6) hx hb hts i_X8_isOperand_X8 hown hK hP 0 rfl rfl 1 (by decide) k_2 (fun _ h9 => h9) rfl dX8_isOperand_214 ?_
      refine va_getN (D := (dC, dI)) (ci := 4) (v := .int v4_2) (C := RX4) (T := TX4) (N := 9) hx hb hts i_X8_isOperand_X4 hown hK hP 2 rfl rfl 2 (by decide) ((hN.1 ("FlowJudge", 88, "FlowJudge$Members", "fieldCount", "I") (List.mem_of_getElem? (i := 2) rfl)).use rfl) (fun _ h9 => h9) rfl dX8_isOperand_217 ?_
      refine lv_icmp_ge (tgt := 227) hx hb dX8_isOperand_220 (by decide) (fun c_15 => ?_) (fun c_15 => ?_)
      · replace hf := x_ip c_15 hf
        refine lv_iconst (v := 0) hx hb dX8_isOperand_227 (by decide) ?_
        obtain rfl := Option.some.inj hf
        exact W.zret (ty := .boolean) hx hb hr rfl (fun t ht hW => ⟨⟨_, (), rfl, ⟨rfl, rfl⟩, trivial⟩, hS.F ht⟩) hS.2.2 dX8_isOperand_228
      · replace hf := x_in c_15 hf
        refine lv_iconst (v := 1) hx hb dX8_isOperand_223 (by decide) ?_
        refine lv_goto (tgt := 228) hx hb dX8_isOperand_224 (by decide) ?_
        obtain rfl := Option.some.inj hf
        exact W.zret (ty := .boolean) hx hb hr rfl (fun t ht hW => ⟨⟨_, (), rfl, ⟨rfl, rfl⟩, trivial⟩, hS.F ht⟩) hS.2.2 dX8_isOperand_228
  replace hf := x_in c_13 hf
  rcases Classical.em (p1 = 179) with c_16 | c_16
  · refine lv_lookup (off := 207) (tgt := 208) hx hb dX8_isOperand_1 (by decide) (by rw [c_16]; decide) (by decide) ?_
    replace hf := x_ip c_16 hf
    refine lv_iload_n hx hb dX8_isOperand_208 rfl (lv_at hl 2 rfl) ?_
    refine lv_if_lt (tgt := 227) hx hb dX8_isOperand_209 (by decide) (fun c_17 => ?_) (fun c_17 => ?_)
    · replace hf := x_ip c_17 hf
      refine lv_iconst (v := 0) hx hb dX8_isOperand_227 (by decide) ?_
      obtain rfl := Option.some.inj hf
      exact W.zret (ty := .boolean) hx hb hr rfl (fun t ht hW => ⟨⟨_, (), rfl, ⟨rfl, rfl⟩, trivial⟩, hS.F ht⟩) hS.2.2 dX8_isOperand_228
    · replace hf := x_in c_17 hf
      refine lv_iload_n hx hb dX8_isOperand_212 rfl (lv_at hl 2 rfl) ?_
      refine lv_aload_n hx hb dX8_isOperand_213 rfl (lv_at hl 0 rfl) ?_
      refine va_get (D := (dC, dI)) (ci := 8) (v := .ref o4) (C := RX8) (T := TX8) (N := 6) hx hb hts i_X8_isOperand_X8 hown hK hP 0 rfl rfl 1 (by decide) k_2 (fun _ h9 => h9) rfl dX8_isOperand_214 ?_
      refine va_getN (D := (dC, dI)) (ci := 4) (v := .int v4_2) (C := RX4) (T := TX4) (N := 9) hx hb hts i_X8_isOperand_X4 hown hK hP 2 rfl rfl 2 (by decide) ((hN.1 ("FlowJudge", 88, "FlowJudge$Members", "fieldCount", "I") (List.mem_of_getElem? (i := 2) rfl)).use rfl) (fun _ h9 => h9) rfl dX8_isOperand_217 ?_
      refine lv_icmp_ge (tgt := 227) hx hb dX8_isOperand_220 (by decide) (fun c_18 => ?_) (fun c_18 => ?_)
      · replace hf := x_ip c_18 hf
        refine lv_iconst (v := 0) hx hb dX8_isOperand_227 (by decide) ?_
        obtain rfl := Option.some.inj hf
        exact W.zret (ty := .boolean) hx hb hr rfl (fun t ht hW => ⟨⟨_, (), rfl, ⟨rfl, rfl⟩, trivial⟩, hS.F ht⟩) hS.2.2 dX8_isOperand_228
      · replace hf := x_in c_18 hf
        refine lv_iconst (v := 1) hx hb dX8_isOperand_223 (by decide) ?_
        refine lv_goto (tgt := 228) hx hb dX8_isOperand_224 (by decide) ?_
        obtain rfl := Option.some.inj hf
        exact W.zret (ty := .boolean) hx hb hr rfl (fun t ht hW => ⟨⟨_, (), rfl, ⟨rfl, rfl⟩, trivial⟩, hS.F ht⟩) hS.2.2 dX8_isOperand_228
  replace hf := x_in c_16 hf
  rcases Classical.em (p1 = 180) with c_19 | c_19
  · refine lv_lookup (off := 207) (tgt := 208) hx hb dX8_isOperand_1 (by decide) (by rw [c_19]; decide) (by decide) ?_
    replace hf := x_ip c_19 hf
    refine lv_iload_n hx hb dX8_isOperand_208 rfl (lv_at hl 2 rfl) ?_
    refine lv_if_lt (tgt := 227) hx hb dX8_isOperand_209 (by decide) (fun c_20 => ?_) (fun c_20 => ?_)
    · replace hf := x_ip c_20 hf
      refine lv_iconst (v := 0) hx hb dX8_isOperand_227 (by decide) ?_
      obtain rfl := Option.some.inj hf
      exact W.zret (ty := .boolean) hx hb hr rfl (fun t ht hW => ⟨⟨_, (), rfl, ⟨rfl, rfl⟩, trivial⟩, hS.F ht⟩) hS.2.2 dX8_isOperand_228
    · replace hf := x_in c_20 hf
      refine lv_iload_n hx hb dX8_isOperand_212 rfl (lv_at hl 2 rfl) ?_
      refine lv_aload_n hx hb dX8_isOperand_213 rfl (lv_at hl 0 rfl) ?_
      refine va_get (D := (dC, dI)) (ci := 8) (v := .ref o4) (C := RX8) (T := TX8) (N := 6) hx hb hts i_X8_isOperand_X8 hown hK hP 0 rfl rfl 1 (by decide) k_2 (fun _ h9 => h9) rfl dX8_isOperand_214 ?_
      refine va_getN (D := (dC, dI)) (ci := 4) (v := .int v4_2) (C := RX4) (T := TX4) (N := 9) hx hb hts i_X8_isOperand_X4 hown hK hP 2 rfl rfl 2 (by decide) ((hN.1 ("FlowJudge", 88, "FlowJudge$Members", "fieldCount", "I") (List.mem_of_getElem? (i := 2) rfl)).use rfl) (fun _ h9 => h9) rfl dX8_isOperand_217 ?_
      refine lv_icmp_ge (tgt := 227) hx hb dX8_isOperand_220 (by decide) (fun c_21 => ?_) (fun c_21 => ?_)
      · replace hf := x_ip c_21 hf
        refine lv_iconst (v := 0) hx hb dX8_isOperand_227 (by decide) ?_
        obtain rfl := Option.some.inj hf
        exact W.zret (ty := .boolean) hx hb hr rfl (fun t ht hW => ⟨⟨_, (), rfl, ⟨rfl, rfl⟩, trivial⟩, hS.F ht⟩) hS.2.2 dX8_isOperand_228
      · replace hf := x_in c_21 hf
        refine lv_iconst (v := 1) hx hb dX8_isOperand_223 (by decide) ?_
        refine lv_goto (tgt := 228) hx hb dX8_isOperand_224 (by decide) ?_
        obtain rfl := Option.some.inj hf
        exact W.zret (ty := .boolean) hx hb hr rfl (fun t ht hW => ⟨⟨_, (), rfl, ⟨rfl, rfl⟩, trivial⟩, hS.F ht⟩) hS.2.2 dX8_isOperand_228
  replace hf := x_in c_19 hf
  rcases Classical.em (p1 = 181) with c_22 | c_22
  · refine lv_lookup (off := 207) (tgt := 208) hx hb dX8_isOperand_1 (by decide) (by rw [c_22]; decide) (by decide) ?_
    replace hf := x_ip c_22 hf
    refine lv_iload_n hx hb dX8_isOperand_208 rfl (lv_at hl 2 rfl) ?_
    refine lv_if_lt (tgt := 227) hx hb dX8_isOperand_209 (by decide) (fun c_23 => ?_) (fun c_23 => ?_)
    · replace hf := x_ip c_23 hf
      refine lv_iconst (v := 0) hx hb dX8_isOperand_227 (by decide) ?_
      obtain rfl := Option.some.inj hf
      exact W.zret (ty := .boolean) hx hb hr rfl (fun t ht hW => ⟨⟨_, (), rfl, ⟨rfl, rfl⟩, trivial⟩, hS.F ht⟩) hS.2.2 dX8_isOperand_228
    · replace hf := x_in c_23 hf
      refine lv_iload_n hx hb dX8_isOperand_212 rfl (lv_at hl 2 rfl) ?_
      refine lv_aload_n hx hb dX8_isOperand_213 rfl (lv_at hl 0 rfl) ?_
      refine va_get (D := (dC, dI)) (ci := 8) (v := .ref o4) (C := RX8) (T := TX8) (N := 6) hx hb hts i_X8_isOperand_X8 hown hK hP 0 rfl rfl 1 (by decide) k_2 (fun _ h9 => h9) rfl dX8_isOperand_214 ?_
      refine va_getN (D := (dC, dI)) (ci := 4) (v := .int v4_2) (C := RX4) (T := TX4) (N := 9) hx hb hts i_X8_isOperand_X4 hown hK hP 2 rfl rfl 2 (by decide) ((hN.1 ("FlowJudge", 88, "FlowJudge$Members", "fieldCount", "I") (List.mem_of_getElem? (i := 2) rfl)).use rfl) (fun _ h9 => h9) rfl dX8_isOperand_217 ?_
      refine lv_icmp_ge (tgt := 227) hx hb dX8_isOperand_220 (by decide) (fun c_24 => ?_) (fun c_24 => ?_)
      · replace hf := x_ip c_24 hf
        refine lv_iconst (v := 0) hx hb dX8_isOperand_227 (by decide) ?_
        obtain rfl := Option.some.inj hf
        exact W.zret (ty := .boolean) hx hb hr rfl (fun t ht hW => ⟨⟨_, (), rfl, ⟨rfl, rfl⟩, trivial⟩, hS.F ht⟩) hS.2.2 dX8_isOperand_228
      · replace hf := x_in c_24 hf
        refine lv_iconst (v := 1) hx hb dX8_isOperand_223 (by decide) ?_
        refine lv_goto (tgt := 228) hx hb dX8_isOperand_224 (by decide) ?_
        obtain rfl := Option.some.inj hf
        exact W.zret (ty := .boolean) hx hb hr rfl (fun t ht hW => ⟨⟨_, (), rfl, ⟨rfl, rfl⟩, trivial⟩, hS.F ht⟩) hS.2.2 dX8_isOperand_228
  replace hf := x_in c_22 hf
  rcases Classical.em (p1 = 182) with c_25 | c_25
  · refine lv_lookup (off := 228) (tgt := 229) hx hb dX8_isOperand_1 (by decide) (by rw [c_25]; decide) (by decide) ?_
    replace hf := x_ip c_25 hf
    refine lv_iload_n hx hb dX8_isOperand_229 rfl (lv_at hl 2 rfl) ?_
    refine lv_if_lt (tgt := 248) hx hb dX8_isOperand_230 (by decide) (fun c_26 => ?_) (fun c_26 => ?_)
    · replace hf := x_ip c_26 hf
      refine lv_iconst (v := 0) hx hb dX8_isOperand_248 (by decide) ?_
      obtain rfl := Option.some.inj hf
      exact W.zret (ty := .boolean) hx hb hr rfl (fun t ht hW => ⟨⟨_, (), rfl, ⟨rfl, rfl⟩, trivial⟩, hS.F ht⟩) hS.2.2 dX8_isOperand_249
    · replace hf := x_in c_26 hf
      refine lv_iload_n hx hb dX8_isOperand_233 rfl (lv_at hl 2 rfl) ?_
      refine lv_aload_n hx hb dX8_isOperand_234 rfl (lv_at hl 0 rfl) ?_
      refine va_get (D := (dC, dI)) (ci := 8) (v := .ref o4) (C := RX8) (T := TX8) (N := 6) hx hb hts i_X8_isOperand_X8 hown hK hP 0 rfl rfl 1 (by decide) k_2 (fun _ h9 => h9) rfl dX8_isOperand_235 ?_
      refine va_getN (D := (dC, dI)) (ci := 4) (v := .int v4_8) (C := RX4) (T := TX4) (N := 9) hx hb hts i_X8_isOperand_X4 hown hK hP 2 rfl rfl 8 (by decide) ((hN.1 ("FlowJudge", 104, "FlowJudge$Members", "shapeCount", "I") (List.mem_of_getElem? (i := 3) rfl)).use rfl) (fun _ h9 => h9) rfl dX8_isOperand_238 ?_
      refine lv_icmp_ge (tgt := 248) hx hb dX8_isOperand_241 (by decide) (fun c_27 => ?_) (fun c_27 => ?_)
      · replace hf := x_ip c_27 hf
        refine lv_iconst (v := 0) hx hb dX8_isOperand_248 (by decide) ?_
        obtain rfl := Option.some.inj hf
        exact W.zret (ty := .boolean) hx hb hr rfl (fun t ht hW => ⟨⟨_, (), rfl, ⟨rfl, rfl⟩, trivial⟩, hS.F ht⟩) hS.2.2 dX8_isOperand_249
      · replace hf := x_in c_27 hf
        refine lv_iconst (v := 1) hx hb dX8_isOperand_244 (by decide) ?_
        refine lv_goto (tgt := 249) hx hb dX8_isOperand_245 (by decide) ?_
        obtain rfl := Option.some.inj hf
        exact W.zret (ty := .boolean) hx hb hr rfl (fun t ht hW => ⟨⟨_, (), rfl, ⟨rfl, rfl⟩, trivial⟩, hS.F ht⟩) hS.2.2 dX8_isOperand_249
  replace hf := x_in c_25 hf
  rcases Classical.em (p1 = 183) with c_28 | c_28
  · refine lv_lookup (off := 228) (tgt := 229) hx hb dX8_isOperand_1 (by decide) (by rw [c_28]; decide) (by decide) ?_
    replace hf := x_ip c_28 hf
    refine lv_iload_n hx hb dX8_isOperand_229 rfl (lv_at hl 2 rfl) ?_
    refine lv_if_lt (tgt := 248) hx hb dX8_isOperand_230 (by decide) (fun c_29 => ?_) (fun c_29 => ?_)
    · replace hf := x_ip c_29 hf
      refine lv_iconst (v := 0) hx hb dX8_isOperand_248 (by decide) ?_
      obtain rfl := Option.some.inj hf
      exact W.zret (ty := .boolean) hx hb hr rfl (fun t ht hW => ⟨⟨_, (), rfl, ⟨rfl, rfl⟩, trivial⟩, hS.F ht⟩) hS.2.2 dX8_isOperand_249
    · replace hf := x_in c_29 hf
      refine lv_iload_n hx hb dX8_isOperand_233 rfl (lv_at hl 2 rfl) ?_
      refine lv_aload_n hx hb dX8_isOperand_234 rfl (lv_at hl 0 rfl) ?_
      refine va_get (D := (dC, dI)) (ci := 8) (v := .ref o4) (C := RX8) (T := TX8) (N := 6) hx hb hts i_X8_isOperand_X8 hown hK hP 0 rfl rfl 1 (by decide) k_2 (fun _ h9 => h9) rfl dX8_isOperand_235 ?_
      refine va_getN (D := (dC, dI)) (ci := 4) (v := .int v4_8) (C := RX4) (T := TX4) (N := 9) hx hb hts i_X8_isOperand_X4 hown hK hP 2 rfl rfl 8 (by decide) ((hN.1 ("FlowJudge", 104, "FlowJudge$Members", "shapeCount", "I") (List.mem_of_getElem? (i := 3) rfl)).use rfl) (fun _ h9 => h9) rfl dX8_isOperand_238 ?_
      refine lv_icmp_ge (tgt := 248) hx hb dX8_isOperand_241 (by decide) (fun c_30 => ?_) (fun c_30 => ?_)
      · replace hf := x_ip c_30 hf
        refine lv_iconst (v := 0) hx hb dX8_isOperand_248 (by decide) ?_
        obtain rfl := Option.some.inj hf
        exact W.zret (ty := .boolean) hx hb hr rfl (fun t ht hW => ⟨⟨_, (), rfl, ⟨rfl, rfl⟩, trivial⟩, hS.F ht⟩) hS.2.2 dX8_isOperand_249
      · replace hf := x_in c_30 hf
        refine lv_iconst (v := 1) hx hb dX8_isOperand_244 (by decide) ?_
        refine lv_goto (tgt := 249) hx hb dX8_isOperand_245 (by decide) ?_
        obtain rfl := Option.some.inj hf
        exact W.zret (ty := .boolean) hx hb hr rfl (fun t ht hW => ⟨⟨_, (), rfl, ⟨rfl, rfl⟩, trivial⟩, hS.F ht⟩) hS.2.2 dX8_isOperand_249
  replace hf := x_in c_28 hf
  rcases Classical.em (p1 = 184) with c_31 | c_31
  · refine lv_lookup (off := 228) (tgt := 229) hx hb dX8_isOperand_1 (by decide) (by rw [c_31]; decide) (by decide) ?_
    replace hf := x_ip c_31 hf
    refine lv_iload_n hx hb dX8_isOperand_229 rfl (lv_at hl 2 rfl) ?_
    refine lv_if_lt (tgt := 248) hx hb dX8_isOperand_230 (by decide) (fun c_32 => ?_) (fun c_32 => ?_)
    · replace hf := x_ip c_32 hf
      refine lv_iconst (v := 0) hx hb dX8_isOperand_248 (by decide) ?_
      obtain rfl := Option.some.inj hf
      exact W.zret (ty := .boolean) hx hb hr rfl (fun t ht hW => ⟨⟨_, (), rfl, ⟨rfl, rfl⟩, trivial⟩, hS.F ht⟩) hS.2.2 dX8_isOperand_249
    · replace hf := x_in c_32 hf
      refine lv_iload_n hx hb dX8_isOperand_233 rfl (lv_at hl 2 rfl) ?_
      refine lv_aload_n hx hb dX8_isOperand_234 rfl (lv_at hl 0 rfl) ?_
      refine va_get (D := (dC, dI)) (ci := 8) (v := .ref o4) (C := RX8) (T := TX8) (N := 6) hx hb hts i_X8_isOperand_X8 hown hK hP 0 rfl rfl 1 (by decide) k_2 (fun _ h9 => h9) rfl dX8_isOperand_235 ?_
      refine va_getN (D := (dC, dI)) (ci := 4) (v := .int v4_8) (C := RX4) (T := TX4) (N := 9) hx hb hts i_X8_isOperand_X4 hown hK hP 2 rfl rfl 8 (by decide) ((hN.1 ("FlowJudge", 104, "FlowJudge$Members", "shapeCount", "I") (List.mem_of_getElem? (i := 3) rfl)).use rfl) (fun _ h9 => h9) rfl dX8_isOperand_238 ?_
      refine lv_icmp_ge (tgt := 248) hx hb dX8_isOperand_241 (by decide) (fun c_33 => ?_) (fun c_33 => ?_)
      · replace hf := x_ip c_33 hf
        refine lv_iconst (v := 0) hx hb dX8_isOperand_248 (by decide) ?_
        obtain rfl := Option.some.inj hf
        exact W.zret (ty := .boolean) hx hb hr rfl (fun t ht hW => ⟨⟨_, (), rfl, ⟨rfl, rfl⟩, trivial⟩, hS.F ht⟩) hS.2.2 dX8_isOperand_249
      · replace hf := x_in c_33 hf
        refine lv_iconst (v := 1) hx hb dX8_isOperand_244 (by decide) ?_
        refine lv_goto (tgt := 249) hx hb dX8_isOperand_245 (by decide) ?_
        obtain rfl := Option.some.inj hf
        exact W.zret (ty := .boolean) hx hb hr rfl (fun t ht hW => ⟨⟨_, (), rfl, ⟨rfl, rfl⟩, trivial⟩, hS.F ht⟩) hS.2.2 dX8_isOperand_249
  replace hf := x_in c_31 hf
  rcases Classical.em (p1 = 185) with c_34 | c_34
  · refine lv_lookup (off := 228) (tgt := 229) hx hb dX8_isOperand_1 (by decide) (by rw [c_34]; decide) (by decide) ?_
    replace hf := x_ip c_34 hf
    refine lv_iload_n hx hb dX8_isOperand_229 rfl (lv_at hl 2 rfl) ?_
    refine lv_if_lt (tgt := 248) hx hb dX8_isOperand_230 (by decide) (fun c_35 => ?_) (fun c_35 => ?_)
    · replace hf := x_ip c_35 hf
      refine lv_iconst (v := 0) hx hb dX8_isOperand_248 (by decide) ?_
      obtain rfl := Option.some.inj hf
      exact W.zret (ty := .boolean) hx hb hr rfl (fun t ht hW => ⟨⟨_, (), rfl, ⟨rfl, rfl⟩, trivial⟩, hS.F ht⟩) hS.2.2 dX8_isOperand_249
    · replace hf := x_in c_35 hf
      refine lv_iload_n hx hb dX8_isOperand_233 rfl (lv_at hl 2 rfl) ?_
      refine lv_aload_n hx hb dX8_isOperand_234 rfl (lv_at hl 0 rfl) ?_
      refine va_get (D := (dC, dI)) (ci := 8) (v := .ref o4) (C := RX8) (T := TX8) (N := 6) hx hb hts i_X8_isOperand_X8 hown hK hP 0 rfl rfl 1 (by decide) k_2 (fun _ h9 => h9) rfl dX8_isOperand_235 ?_
      refine va_getN (D := (dC, dI)) (ci := 4) (v := .int v4_8) (C := RX4) (T := TX4) (N := 9) hx hb hts i_X8_isOperand_X4 hown hK hP 2 rfl rfl 8 (by decide) ((hN.1 ("FlowJudge", 104, "FlowJudge$Members", "shapeCount", "I") (List.mem_of_getElem? (i := 3) rfl)).use rfl) (fun _ h9 => h9) rfl dX8_isOperand_238 ?_
      refine lv_icmp_ge (tgt := 248) hx hb dX8_isOperand_241 (by decide) (fun c_36 => ?_) (fun c_36 => ?_)
      · replace hf := x_ip c_36 hf
        refine lv_iconst (v := 0) hx hb dX8_isOperand_248 (by decide) ?_
        obtain rfl := Option.some.inj hf
        exact W.zret (ty := .boolean) hx hb hr rfl (fun t ht hW => ⟨⟨_, (), rfl, ⟨rfl, rfl⟩, trivial⟩, hS.F ht⟩) hS.2.2 dX8_isOperand_249
      · replace hf := x_in c_36 hf
        refine lv_iconst (v := 1) hx hb dX8_isOperand_244 (by decide) ?_
        refine lv_goto (tgt := 249) hx hb dX8_isOperand_245 (by decide) ?_
        obtain rfl := Option.some.inj hf
        exact W.zret (ty := .boolean) hx hb hr rfl (fun t ht hW => ⟨⟨_, (), rfl, ⟨rfl, rfl⟩, trivial⟩, hS.F ht⟩) hS.2.2 dX8_isOperand_249
  replace hf := x_in c_34 hf
  rcases Classical.em (p1 = 186) with c_37 | c_37
  · refine lv_lookup (off := 228) (tgt := 229) hx hb dX8_isOperand_1 (by decide) (by rw [c_37]; decide) (by decide) ?_
    replace hf := x_ip c_37 hf
    refine lv_iload_n hx hb dX8_isOperand_229 rfl (lv_at hl 2 rfl) ?_
    refine lv_if_lt (tgt := 248) hx hb dX8_isOperand_230 (by decide) (fun c_38 => ?_) (fun c_38 => ?_)
    · replace hf := x_ip c_38 hf
      refine lv_iconst (v := 0) hx hb dX8_isOperand_248 (by decide) ?_
      obtain rfl := Option.some.inj hf
      exact W.zret (ty := .boolean) hx hb hr rfl (fun t ht hW => ⟨⟨_, (), rfl, ⟨rfl, rfl⟩, trivial⟩, hS.F ht⟩) hS.2.2 dX8_isOperand_249
    · replace hf := x_in c_38 hf
      refine lv_iload_n hx hb dX8_isOperand_233 rfl (lv_at hl 2 rfl) ?_
      refine lv_aload_n hx hb dX8_isOperand_234 rfl (lv_at hl 0 rfl) ?_
      refine va_get (D := (dC, dI)) (ci := 8) (v := .ref o4) (C := RX8) (T := TX8) (N := 6) hx hb hts i_X8_isOperand_X8 hown hK hP 0 rfl rfl 1 (by decide) k_2 (fun _ h9 => h9) rfl dX8_isOperand_235 ?_
      refine va_getN (D := (dC, dI)) (ci := 4) (v := .int v4_8) (C := RX4) (T := TX4) (N := 9) hx hb hts i_X8_isOperand_X4 hown hK hP 2 rfl rfl 8 (by decide) ((hN.1 ("FlowJudge", 104, "FlowJudge$Members", "shapeCount", "I") (List.mem_of_getElem? (i := 3) rfl)).use rfl) (fun _ h9 => h9) rfl dX8_isOperand_238 ?_
      refine lv_icmp_ge (tgt := 248) hx hb dX8_isOperand_241 (by decide) (fun c_39 => ?_) (fun c_39 => ?_)
      · replace hf := x_ip c_39 hf
        refine lv_iconst (v := 0) hx hb dX8_isOperand_248 (by decide) ?_
        obtain rfl := Option.some.inj hf
        exact W.zret (ty := .boolean) hx hb hr rfl (fun t ht hW => ⟨⟨_, (), rfl, ⟨rfl, rfl⟩, trivial⟩, hS.F ht⟩) hS.2.2 dX8_isOperand_249
      · replace hf := x_in c_39 hf
        refine lv_iconst (v := 1) hx hb dX8_isOperand_244 (by decide) ?_
        refine lv_goto (tgt := 249) hx hb dX8_isOperand_245 (by decide) ?_
        obtain rfl := Option.some.inj hf
        exact W.zret (ty := .boolean) hx hb hr rfl (fun t ht hW => ⟨⟨_, (), rfl, ⟨rfl, rfl⟩, trivial⟩, hS.F ht⟩) hS.2.2 dX8_isOperand_249
  replace hf := x_in c_37 hf
  rcases Classical.em (p1 = 187) with c_40 | c_40
  · refine lv_lookup (off := 249) (tgt := 250) hx hb dX8_isOperand_1 (by decide) (by rw [c_40]; decide) (by decide) ?_
    replace hf := x_ip c_40 hf
    refine lv_aload_n hx hb dX8_isOperand_250 rfl (lv_at hl 0 rfl) ?_
    refine va_get (D := (dC, dI)) (ci := 8) (v := .ref o7) (C := RX8) (T := TX8) (N := 6) hx hb hts i_X8_isOperand_X8 hown hK hP 0 rfl rfl 0 (by decide) k_1 (fun _ h9 => h9) rfl dX8_isOperand_251 ?_
    refine lv_iload_n hx hb dX8_isOperand_254 rfl (lv_at hl 2 rfl) ?_
    obtain ⟨r_41, h_41, hf⟩ := x_bi hf
    have hPc := hP.sub (ws' := [(o7, .inr (7, [.ref a7_0, .ref a7_1, .int v7_2]))]) [1] rfl
    refine va_calli (va_runV (As := [.int p2]) (rest := []) ⟨hx, hb, hml, hown, hts⟩ (c_X7_isClass l dC dI cyI cyZ cyJ H.size o7 a7_0 a7_1 v7_2 p2 r_41 h_41) (cwV 1 hts gX8_isOperand_X7_isClass rfl rfl rfl (by decide +kernel) ⟨Nat.le_of_ble_eq_true rfl, Nat.le_of_ble_eq_true rfl⟩) (x_pV hN hK hPc (ci := 7) (q0 := 0) rfl rfl) rfl rfl hl.1 rfl (lv_room (Nat.le_of_ble_eq_true rfl)) dX8_isOperand_255 ⟨Nat.le_of_ble_eq_true rfl, Nat.le_of_ble_eq_true rfl⟩) hS x_nA (x_nf hA hS) (fun q_41 u t H1 locs ht hvm hw hB hz1 hk1 hS => ?_)
    have hP := x_kp hP hk1
    clear ht hvm hB hz1 hk1 t u hPc
    generalize H1 = H at hP hS ⊢
    obtain ⟨hw, b_41⟩ := hw
    obtain rfl := hw.symm
    obtain rfl := Option.some.inj hf
    exact W.zret (ty := .boolean) hx hb hr b_41 (fun t ht hW => ⟨⟨_, (), rfl, ⟨rfl, b_41⟩, trivial⟩, hS.F ht⟩) hS.2.2 dX8_isOperand_258
  replace hf := x_in c_40 hf
  rcases Classical.em (p1 = 188) with c_42 | c_42
  · refine lv_lookup (off := 258) (tgt := 259) hx hb dX8_isOperand_1 (by decide) (by rw [c_42]; decide) (by decide) ?_
    replace hf := x_ip c_42 hf
    refine lv_iload_n hx hb dX8_isOperand_259 rfl (lv_at hl 2 rfl) ?_
    refine lv_if_lt (tgt := 273) hx hb dX8_isOperand_260 (by decide) (fun c_43 => ?_) (fun c_43 => ?_)
    · replace hf := x_ip c_43 hf
      refine lv_iconst (v := 0) hx hb dX8_isOperand_273 (by decide) ?_
      obtain rfl := Option.some.inj hf
      exact W.zret (ty := .boolean) hx hb hr rfl (fun t ht hW => ⟨⟨_, (), rfl, ⟨rfl, rfl⟩, trivial⟩, hS.F ht⟩) hS.2.2 dX8_isOperand_274
    · replace hf := x_in c_43 hf
      refine lv_iload_n hx hb dX8_isOperand_263 rfl (lv_at hl 2 rfl) ?_
      refine lv_bipush (v := 7) hx hb dX8_isOperand_264 (by decide) ?_
      refine lv_icmp_gt (tgt := 273) hx hb dX8_isOperand_266 (by decide) (fun c_44 => ?_) (fun c_44 => ?_)
      · replace hf := x_ip c_44 hf
        refine lv_iconst (v := 0) hx hb dX8_isOperand_273 (by decide) ?_
        obtain rfl := Option.some.inj hf
        exact W.zret (ty := .boolean) hx hb hr rfl (fun t ht hW => ⟨⟨_, (), rfl, ⟨rfl, rfl⟩, trivial⟩, hS.F ht⟩) hS.2.2 dX8_isOperand_274
      · replace hf := x_in c_44 hf
        refine lv_iconst (v := 1) hx hb dX8_isOperand_269 (by decide) ?_
        refine lv_goto (tgt := 274) hx hb dX8_isOperand_270 (by decide) ?_
        obtain rfl := Option.some.inj hf
        exact W.zret (ty := .boolean) hx hb hr rfl (fun t ht hW => ⟨⟨_, (), rfl, ⟨rfl, rfl⟩, trivial⟩, hS.F ht⟩) hS.2.2 dX8_isOperand_274
  replace hf := x_in c_42 hf
  rcases Classical.em (p1 = 189) with c_45 | c_45
  · refine lv_lookup (off := 274) (tgt := 275) hx hb dX8_isOperand_1 (by decide) (by rw [c_45]; decide) (by decide) ?_
    replace hf := x_ip c_45 hf
    refine lv_aload_n hx hb dX8_isOperand_275 rfl (lv_at hl 0 rfl) ?_
    refine va_get (D := (dC, dI)) (ci := 8) (v := .ref o7) (C := RX8) (T := TX8) (N := 6) hx hb hts i_X8_isOperand_X8 hown hK hP 0 rfl rfl 0 (by decide) k_1 (fun _ h9 => h9) rfl dX8_isOperand_276 ?_
    refine lv_iload_n hx hb dX8_isOperand_279 rfl (lv_at hl 2 rfl) ?_
    obtain ⟨r_46, h_46, hf⟩ := x_bi hf
    have hPc := hP.sub (ws' := [(o7, .inr (7, [.ref a7_0, .ref a7_1, .int v7_2]))]) [1] rfl
    refine va_calli (va_runV (As := [.int p2]) (rest := []) ⟨hx, hb, hml, hown, hts⟩ (c_X7_isReference l dC dI cyI cyZ cyJ H.size o7 a7_0 a7_1 v7_2 p2 r_46 h_46) (cwV 1 hts gX8_isOperand_X7_isReference rfl rfl rfl (by decide +kernel) ⟨Nat.le_of_ble_eq_true rfl, Nat.le_of_ble_eq_true rfl⟩) (x_pV hN hK hPc (ci := 7) (q0 := 0) rfl rfl) rfl rfl hl.1 rfl (lv_room (Nat.le_of_ble_eq_true rfl)) dX8_isOperand_280 ⟨Nat.le_of_ble_eq_true rfl, Nat.le_of_ble_eq_true rfl⟩) hS x_nA (x_nf hA hS) (fun q_46 u t H1 locs ht hvm hw hB hz1 hk1 hS => ?_)
    have hP := x_kp hP hk1
    clear ht hvm hB hz1 hk1 t u hPc
    generalize H1 = H at hP hS ⊢
    obtain ⟨hw, b_46⟩ := hw
    obtain rfl := hw.symm
    refine lv_if_eq (tgt := 300) hx hb dX8_isOperand_283 (by decide) (fun c_47 => ?_) (fun c_47 => ?_)
    · replace hf := x_ip c_47 hf
      refine lv_iconst (v := 0) hx hb dX8_isOperand_300 (by decide) ?_
      obtain rfl := Option.some.inj hf
      exact W.zret (ty := .boolean) hx hb hr rfl (fun t ht hW => ⟨⟨_, (), rfl, ⟨rfl, rfl⟩, trivial⟩, hS.F ht⟩) hS.2.2 dX8_isOperand_301
    · replace hf := x_in c_47 hf
      refine lv_iload_n hx hb dX8_isOperand_286 rfl (lv_at hl 2 rfl) ?_
      obtain ⟨r_48, h_48, hf⟩ := x_bi hf
      have hPc := hP.sub (ws' := []) [] rfl
      refine va_calli (va_runS (As := [.int p2]) (rest := []) ⟨hx, hb, hml, hown, hts⟩ (c_X7_dimensionsOf l dC dI cyI cyZ cyJ H.size p2 r_48 h_48) (va_cwS 1 hts gX8_isOperand_X7_dimensionsOf rfl rfl rfl (by decide +kernel) ⟨Nat.le_of_ble_eq_true rfl, Nat.le_of_ble_eq_true rfl⟩) (x_pS hN hK hPc) rfl rfl hl.1 rfl (lv_room (Nat.le_of_ble_eq_true rfl)) dX8_isOperand_287 ⟨Nat.le_of_ble_eq_true rfl, Nat.le_of_ble_eq_true rfl⟩) hS x_nA (x_nf hA hS) (fun q_48 u t H1 locs ht hvm hw hB hz1 hk1 hS => ?_)
      have hP := x_kp hP hk1
      clear ht hvm hB hz1 hk1 t u hPc
      generalize H1 = H at hP hS ⊢
      obtain rfl := hw.symm
      refine lv_sipush (v := 255) hx hb dX8_isOperand_290 (by decide) ?_
      refine lv_icmp_ge (tgt := 300) hx hb dX8_isOperand_293 (by decide) (fun c_49 => ?_) (fun c_49 => ?_)
      · replace hf := x_ip c_49 hf
        refine lv_iconst (v := 0) hx hb dX8_isOperand_300 (by decide) ?_
        obtain rfl := Option.some.inj hf
        exact W.zret (ty := .boolean) hx hb hr rfl (fun t ht hW => ⟨⟨_, (), rfl, ⟨rfl, rfl⟩, trivial⟩, hS.F ht⟩) hS.2.2 dX8_isOperand_301
      · replace hf := x_in c_49 hf
        refine lv_iconst (v := 1) hx hb dX8_isOperand_296 (by decide) ?_
        refine lv_goto (tgt := 301) hx hb dX8_isOperand_297 (by decide) ?_
        obtain rfl := Option.some.inj hf
        exact W.zret (ty := .boolean) hx hb hr rfl (fun t ht hW => ⟨⟨_, (), rfl, ⟨rfl, rfl⟩, trivial⟩, hS.F ht⟩) hS.2.2 dX8_isOperand_301
  replace hf := x_in c_45 hf
  rcases Classical.em (p1 = 192) with c_50 | c_50
  · refine lv_lookup (off := 301) (tgt := 302) hx hb dX8_isOperand_1 (by decide) (by rw [c_50]; decide) (by decide) ?_
    replace hf := x_ip c_50 hf
    refine lv_aload_n hx hb dX8_isOperand_302 rfl (lv_at hl 0 rfl) ?_
    refine va_get (D := (dC, dI)) (ci := 8) (v := .ref o7) (C := RX8) (T := TX8) (N := 6) hx hb hts i_X8_isOperand_X8 hown hK hP 0 rfl rfl 0 (by decide) k_1 (fun _ h9 => h9) rfl dX8_isOperand_303 ?_
    refine lv_iload_n hx hb dX8_isOperand_306 rfl (lv_at hl 2 rfl) ?_
    obtain ⟨r_51, h_51, hf⟩ := x_bi hf
    have hPc := hP.sub (ws' := [(o7, .inr (7, [.ref a7_0, .ref a7_1, .int v7_2]))]) [1] rfl
    refine va_calli (va_runV (As := [.int p2]) (rest := []) ⟨hx, hb, hml, hown, hts⟩ (c_X7_isReference l dC dI cyI cyZ cyJ H.size o7 a7_0 a7_1 v7_2 p2 r_51 h_51) (cwV 1 hts gX8_isOperand_X7_isReference rfl rfl rfl (by decide +kernel) ⟨Nat.le_of_ble_eq_true rfl, Nat.le_of_ble_eq_true rfl⟩) (x_pV hN hK hPc (ci := 7) (q0 := 0) rfl rfl) rfl rfl hl.1 rfl (lv_room (Nat.le_of_ble_eq_true rfl)) dX8_isOperand_307 ⟨Nat.le_of_ble_eq_true rfl, Nat.le_of_ble_eq_true rfl⟩) hS x_nA (x_nf hA hS) (fun q_51 u t H1 locs ht hvm hw hB hz1 hk1 hS => ?_)
    have hP := x_kp hP hk1
    clear ht hvm hB hz1 hk1 t u hPc
    generalize H1 = H at hP hS ⊢
    obtain ⟨hw, b_51⟩ := hw
    obtain rfl := hw.symm
    obtain rfl := Option.some.inj hf
    exact W.zret (ty := .boolean) hx hb hr b_51 (fun t ht hW => ⟨⟨_, (), rfl, ⟨rfl, b_51⟩, trivial⟩, hS.F ht⟩) hS.2.2 dX8_isOperand_310
  replace hf := x_in c_50 hf
  rcases Classical.em (p1 = 193) with c_52 | c_52
  · refine lv_lookup (off := 301) (tgt := 302) hx hb dX8_isOperand_1 (by decide) (by rw [c_52]; decide) (by decide) ?_
    replace hf := x_ip c_52 hf
    refine lv_aload_n hx hb dX8_isOperand_302 rfl (lv_at hl 0 rfl) ?_
    refine va_get (D := (dC, dI)) (ci := 8) (v := .ref o7) (C := RX8) (T := TX8) (N := 6) hx hb hts i_X8_isOperand_X8 hown hK hP 0 rfl rfl 0 (by decide) k_1 (fun _ h9 => h9) rfl dX8_isOperand_303 ?_
    refine lv_iload_n hx hb dX8_isOperand_306 rfl (lv_at hl 2 rfl) ?_
    obtain ⟨r_53, h_53, hf⟩ := x_bi hf
    have hPc := hP.sub (ws' := [(o7, .inr (7, [.ref a7_0, .ref a7_1, .int v7_2]))]) [1] rfl
    refine va_calli (va_runV (As := [.int p2]) (rest := []) ⟨hx, hb, hml, hown, hts⟩ (c_X7_isReference l dC dI cyI cyZ cyJ H.size o7 a7_0 a7_1 v7_2 p2 r_53 h_53) (cwV 1 hts gX8_isOperand_X7_isReference rfl rfl rfl (by decide +kernel) ⟨Nat.le_of_ble_eq_true rfl, Nat.le_of_ble_eq_true rfl⟩) (x_pV hN hK hPc (ci := 7) (q0 := 0) rfl rfl) rfl rfl hl.1 rfl (lv_room (Nat.le_of_ble_eq_true rfl)) dX8_isOperand_307 ⟨Nat.le_of_ble_eq_true rfl, Nat.le_of_ble_eq_true rfl⟩) hS x_nA (x_nf hA hS) (fun q_53 u t H1 locs ht hvm hw hB hz1 hk1 hS => ?_)
    have hP := x_kp hP hk1
    clear ht hvm hB hz1 hk1 t u hPc
    generalize H1 = H at hP hS ⊢
    obtain ⟨hw, b_53⟩ := hw
    obtain rfl := hw.symm
    obtain rfl := Option.some.inj hf
    exact W.zret (ty := .boolean) hx hb hr b_53 (fun t ht hW => ⟨⟨_, (), rfl, ⟨rfl, b_53⟩, trivial⟩, hS.F ht⟩) hS.2.2 dX8_isOperand_310
  replace hf := x_in c_52 hf
  refine lv_lookup (off := 310) (tgt := 311) hx hb dX8_isOperand_1 (by decide) ((lv_osw (k := 16) c_1 (by decide)).trans ((lv_osw (k := 17) c_2 (by decide)).trans ((lv_osw (k := 18) c_3 (by decide)).trans ((lv_osw (k := 20) c_8 (by decide)).trans ((lv_osw (k := 178) c_13 (by decide)).trans ((lv_osw (k := 179) c_16 (by decide)).trans ((lv_osw (k := 180) c_19 (by decide)).trans ((lv_osw (k := 181) c_22 (by decide)).trans ((lv_osw (k := 182) c_25 (by decide)).trans ((lv_osw (k := 183) c_28 (by decide)).trans ((lv_osw (k := 184) c_31 (by decide)).trans ((lv_osw (k := 185) c_34 (by decide)).trans ((lv_osw (k := 186) c_37 (by decide)).trans ((lv_osw (k := 187) c_40 (by decide)).trans ((lv_osw (k := 188) c_42 (by decide)).trans ((lv_osw (k := 189) c_45 (by decide)).trans ((lv_osw (k := 192) c_50 (by decide)).trans ((lv_osw (k := 193) c_52 (by decide)).trans rfl)))))))))))))))))) (by decide) ?_
  refine lv_iload_n hx hb dX8_isOperand_311 rfl (lv_at hl 1 rfl) ?_
  obtain ⟨r_54, h_54, hf⟩ := x_bi hf
  have hPc := hP.sub (ws' := []) [] rfl
  refine va_calli (va_runS (As := [.int p1]) (rest := []) ⟨hx, hb, hml, hown, hts⟩ (c_X0_isOpcode l dC dI cyI cyZ cyJ H.size p1 r_54 h_54) (va_cwS 1 hts gX8_isOperand_X0_isOpcode rfl rfl rfl (by decide +kernel) ⟨Nat.le_of_ble_eq_true rfl, Nat.le_of_ble_eq_true rfl⟩) (x_pS hN hK hPc) rfl rfl hl.1 rfl (lv_room (Nat.le_of_ble_eq_true rfl)) dX8_isOperand_312 ⟨Nat.le_of_ble_eq_true rfl, Nat.le_of_ble_eq_true rfl⟩) hS x_nA (x_nf hA hS) (fun q_54 u t H1 locs ht hvm hw hB hz1 hk1 hS => ?_)
  have hP := x_kp hP hk1
  clear ht hvm hB hz1 hk1 t u hPc
  generalize H1 = H at hP hS ⊢
  obtain ⟨hw, b_54⟩ := hw
  obtain rfl := hw.symm
  refine lv_if_eq (tgt := 344) hx hb dX8_isOperand_315 (by decide) (fun c_55 => ?_) (fun c_55 => ?_)
  · replace hf := x_ip c_55 hf
    refine lv_iconst (v := 0) hx hb dX8_isOperand_344 (by decide) ?_
    obtain rfl := Option.some.inj hf
    exact W.zret (ty := .boolean) hx hb hr rfl (fun t ht hW => ⟨⟨_, (), rfl, ⟨rfl, rfl⟩, trivial⟩, hS.F ht⟩) hS.2.2 dX8_isOperand_345
  · replace hf := x_in c_55 hf
    refine lv_iload_n hx hb dX8_isOperand_318 rfl (lv_at hl 2 rfl) ?_
    refine lv_if_eq (tgt := 340) hx hb dX8_isOperand_319 (by decide) (fun c_56 => ?_) (fun c_56 => ?_)
    · replace hf := x_ip c_56 hf
      refine lv_iconst (v := 1) hx hb dX8_isOperand_340 (by decide) ?_
      refine lv_goto (tgt := 345) hx hb dX8_isOperand_341 (by decide) ?_
      obtain rfl := Option.some.inj hf
      exact W.zret (ty := .boolean) hx hb hr rfl (fun t ht hW => ⟨⟨_, (), rfl, ⟨rfl, rfl⟩, trivial⟩, hS.F ht⟩) hS.2.2 dX8_isOperand_345
    · replace hf := x_in c_56 hf
      refine lv_iload_n hx hb dX8_isOperand_322 rfl (lv_at hl 2 rfl) ?_
      refine lv_if_le (tgt := 344) hx hb dX8_isOperand_323 (by decide) (fun c_57 => ?_) (fun c_57 => ?_)
      · replace hf := x_ip c_57 hf
        refine lv_iconst (v := 0) hx hb dX8_isOperand_344 (by decide) ?_
        obtain rfl := Option.some.inj hf
        exact W.zret (ty := .boolean) hx hb hr rfl (fun t ht hW => ⟨⟨_, (), rfl, ⟨rfl, rfl⟩, trivial⟩, hS.F ht⟩) hS.2.2 dX8_isOperand_345
      · replace hf := x_in c_57 hf
        refine lv_iload_n hx hb dX8_isOperand_326 rfl (lv_at hl 1 rfl) ?_
        obtain ⟨r_58, h_58, hf⟩ := x_bi hf
        have hPc := hP.sub (ws' := []) [] rfl
        refine va_calli (va_runS (As := [.int p1]) (rest := []) ⟨hx, hb, hml, hown, hts⟩ (c_X0_isOfLocal l dC dI cyI cyZ cyJ H.size p1 r_58 h_58) (va_cwS 1 hts gX8_isOperand_X0_isOfLocal rfl rfl rfl (by decide +kernel) ⟨Nat.le_of_ble_eq_true rfl, Nat.le_of_ble_eq_true rfl⟩) (x_pS hN hK hPc) rfl rfl hl.1 rfl (lv_room (Nat.le_of_ble_eq_true rfl)) dX8_isOperand_327 ⟨Nat.le_of_ble_eq_true rfl, Nat.le_of_ble_eq_true rfl⟩) hS x_nA (x_nf hA hS) (fun q_58 u t H1 locs ht hvm hw hB hz1 hk1 hS => ?_)
        have hP := x_kp hP hk1
        clear ht hvm hB hz1 hk1 t u hPc
        generalize H1 = H at hP hS ⊢
        obtain ⟨hw, b_58⟩ := hw
        obtain rfl := hw.symm
        refine lv_if_ne (tgt := 340) hx hb dX8_isOperand_330 (by decide) (fun c_59 => ?_) (fun c_59 => ?_)
        · replace hf := x_in c_59 hf
          refine lv_iconst (v := 1) hx hb dX8_isOperand_340 (by decide) ?_
          refine lv_goto (tgt := 345) hx hb dX8_isOperand_341 (by decide) ?_
          obtain rfl := Option.some.inj hf
          exact W.zret (ty := .boolean) hx hb hr rfl (fun t ht hW => ⟨⟨_, (), rfl, ⟨rfl, rfl⟩, trivial⟩, hS.F ht⟩) hS.2.2 dX8_isOperand_345
        · replace hf := x_ip c_59 hf
          refine lv_iload_n hx hb dX8_isOperand_333 rfl (lv_at hl 1 rfl) ?_
          obtain ⟨r_60, h_60, hf⟩ := x_bi hf
          have hPc := hP.sub (ws' := []) [] rfl
          refine va_calli (va_runS (As := [.int p1]) (rest := []) ⟨hx, hb, hml, hown, hts⟩ (c_X0_isJump l dC dI cyI cyZ cyJ H.size p1 r_60 h_60) (va_cwS 1 hts gX8_isOperand_X0_isJump rfl rfl rfl (by decide +kernel) ⟨Nat.le_of_ble_eq_true rfl, Nat.le_of_ble_eq_true rfl⟩) (x_pS hN hK hPc) rfl rfl hl.1 rfl (lv_room (Nat.le_of_ble_eq_true rfl)) dX8_isOperand_334 ⟨Nat.le_of_ble_eq_true rfl, Nat.le_of_ble_eq_true rfl⟩) hS x_nA (x_nf hA hS) (fun q_60 u t H1 locs ht hvm hw hB hz1 hk1 hS => ?_)
          have hP := x_kp hP hk1
          clear ht hvm hB hz1 hk1 t u hPc
          generalize H1 = H at hP hS ⊢
          obtain ⟨hw, b_60⟩ := hw
          obtain rfl := hw.symm
          refine lv_if_eq (tgt := 344) hx hb dX8_isOperand_337 (by decide) (fun c_61 => ?_) (fun c_61 => ?_)
          · replace hf := x_ip c_61 hf
            refine lv_iconst (v := 0) hx hb dX8_isOperand_344 (by decide) ?_
            obtain rfl := Option.some.inj hf
            exact W.zret (ty := .boolean) hx hb hr rfl (fun t ht hW => ⟨⟨_, (), rfl, ⟨rfl, rfl⟩, trivial⟩, hS.F ht⟩) hS.2.2 dX8_isOperand_345
          · replace hf := x_in c_61 hf
            refine lv_iconst (v := 1) hx hb dX8_isOperand_340 (by decide) ?_
            refine lv_goto (tgt := 345) hx hb dX8_isOperand_341 (by decide) ?_
            obtain rfl := Option.some.inj hf
            exact W.zret (ty := .boolean) hx hb hr rfl (fun t ht hW => ⟨⟨_, (), rfl, ⟨rfl, rfl⟩, trivial⟩, hS.F ht⟩) hS.2.2 dX8_isOperand_345

def f_X8_isInstruction (v7_2 : Int32) (v4_2 : Int32) (v4_8 : Int32) (p1 : Int32) (p2 : Int32) (p3 : Int32) : Option (Int32) := if p1 = (132 : Int32) then if p2 < (0 : Int32) then some 0 else some 1 else if p1 = (197 : Int32) then (f_X7_isReference v7_2 p2) >>= (fun r_4 => if r_4 = (0 : Int32) then some 0 else if p3 < (1 : Int32) then some 0 else (f_X7_dimensionsOf p2) >>= (fun r_7 => if r_7 < p3 then some 0 else some 1)) else if p3 = (0 : Int32) then (f_X8_isOperand v7_2 v4_2 v4_8 p1 p2) >>= (fun r_10 => if r_10 = (0 : Int32) then some 0 else some 1) else some 0
theorem i_X8_isInstruction_X8 : ∀ w ∈ wsX80, w ∈ wsX8_isInstruction := fun _ h => List.mem_cons_of_mem _ (List.mem_append_left _ (List.mem_append_left _ (List.mem_append_right _ h)))
set_option maxHeartbeats 4000000 in
set_option maxRecDepth 100000 in
theorem c_X8_isInstruction (l : Launch) (dC : Nat → ClassId) (dI : Nat → Nat → Nat) (cyI cyZ cyJ : ClassId) (sz : Nat) (o8 : Nat) (o7 : Nat) (o4 : Nat) (o0 : Nat) (o1 : Nat) (o3 : Nat) (o2 : Nat) (a7_0 : Nat) (a7_1 : Nat) (v7_2 : Int32) (a4_0 : Nat) (a4_1 : Nat) (v4_2 : Int32) (a4_3 : Nat) (a4_4 : Nat) (a4_5 : Nat) (a4_6 : Nat) (a4_7 : Nat) (v4_8 : Int32) (p1 : Int32) (p2 : Int32) (p3 : Int32) (R : Int32) (hf : f_X8_isInstruction v7_2 v4_2 v4_8 p1 p2 p3 = some R) : Met l yX8_isInstruction wsX8_isInstruction ({ frames := 4, cells := 0, slots := 0, locals := 85 }) (va_Pc [.ref o8, .int p1, .int p2, .int p3] (x_Pre (dC, dI) (x_T cyI cyZ cyJ) [(o8, .inr (8, [.ref o7, .ref o4, .ref o0, .ref o1, .ref o3, .ref o2])), (o7, .inr (7, [.ref a7_0, .ref a7_1, .int v7_2])), (o4, .inr (4, [.ref a4_0, .ref a4_1, .int v4_2, .ref a4_3, .ref a4_4, .ref a4_5, .ref a4_6, .ref a4_7, .int v4_8]))] sz)) (va_Qi (fun (r : Int32) (_ : Unit) => r = R ∧ x_nb r) (fun _ _ => True) (x_new sz)) 0 0 (x_new sz) := by
  refine Met.ofW (cc := cX8_isInstruction) (maxL := 4) (ret := (some .boolean)) (by decide) rfl ?_
  intro p e s m args below meth c s₁ B hml hv
  obtain ⟨rfl, hsz, hP, hK, hN⟩ := hv
  have hx := B.exec
  have hb := B.bytes
  have hr := B.returns
  have hts := atoms_spec (ws := wsX8_isInstruction) B.pre
  have hown : s.vm.findClass RX8 = some m.cls := findClass_of_methodNamed B.named
  have k_1 := hts (.fieldLink RX8 10 "FlowJudge" "types" "LFlowJudge$Types;") (by decide +kernel)
  subst hsz
  have hA : ∀ q : Nat, s.heap.size ≤ q → x_new s.heap.size q := fun _ h => h
  have hS : va_S (x_new s.heap.size) s.heap s.heap [] := va_S.rf
  have hP : va_P (dC, dI) vwCl [(o8, .inr (8, [.ref o7, .ref o4, .ref o0, .ref o1, .ref o3, .ref o2])), (o7, .inr (7, [.ref a7_0, .ref a7_1, .int v7_2])), (o4, .inr (4, [.ref a4_0, .ref a4_1, .int v4_2, .ref a4_3, .ref a4_4, .ref a4_5, .ref a4_6, .ref a4_7, .int v4_8]))] s.heap := hP
  have hl := lv_entry ([.ref o8, .int p1, .int p2, .int p3]) (n := 4) (Nat.le_of_ble_eq_true rfl)
  rw [lg_entry_eq]
  generalize (lg_sl ([.ref o8, .int p1, .int p2, .int p3]) ++ List.replicate (4 - (lg_sl ([.ref o8, .int p1, .int p2, .int p3])).length) Slot.unset).toArray = ls at hl ⊢
  have hl : lv_has ls 4 [(0, .ref o8), (1, .int p1), (2, .int p2), (3, .int p3)] := hl
  obtain ⟨H, hH⟩ : ∃ z, z = s.heap := ⟨_, rfl⟩
  refine x_here hH ?_
  have hP : va_P (dC, dI) vwCl [(o8, .inr (8, [.ref o7, .ref o4, .ref o0, .ref o1, .ref o3, .ref o2])), (o7, .inr (7, [.ref a7_0, .ref a7_1, .int v7_2])), (o4, .inr (4, [.ref a4_0, .ref a4_1, .int v4_2, .ref a4_3, .ref a4_4, .ref a4_5, .ref a4_6, .ref a4_7, .int v4_8]))] H := by rw [hH]; exact hP
  have hS : va_S (x_new s.heap.size) s.heap H [] := by rw [hH]; exact va_S.rf
  clear hH
  obtain ⟨locs, hlo⟩ : ∃ z : List Loc, z = [] := ⟨_, rfl⟩
  refine x_herl hlo ?_
  have hS : va_S (x_new s.heap.size) s.heap H locs := by rw [hlo]; exact hS
  clear hlo
  unfold f_X8_isInstruction at hf
  refine lv_iload_n hx hb dX8_isInstruction_0 rfl (lv_at hl 1 rfl) ?_
  rcases Classical.em (p1 = 132) with c_1 | c_1
  · refine lv_lookup (off := 27) (tgt := 28) hx hb dX8_isInstruction_1 (by decide) (by rw [c_1]; decide) (by decide) ?_
    replace hf := x_ip c_1 hf
    refine lv_iload_n hx hb dX8_isInstruction_28 rfl (lv_at hl 2 rfl) ?_
    refine lv_if_lt (tgt := 36) hx hb dX8_isInstruction_29 (by decide) (fun c_2 => ?_) (fun c_2 => ?_)
    · replace hf := x_ip c_2 hf
      refine lv_iconst (v := 0) hx hb dX8_isInstruction_36 (by decide) ?_
      obtain rfl := Option.some.inj hf
      exact W.zret (ty := .boolean) hx hb hr rfl (fun t ht hW => ⟨⟨_, (), rfl, ⟨rfl, rfl⟩, trivial⟩, hS.F ht⟩) hS.2.2 dX8_isInstruction_37
    · replace hf := x_in c_2 hf
      refine lv_iconst (v := 1) hx hb dX8_isInstruction_32 (by decide) ?_
      refine lv_goto (tgt := 37) hx hb dX8_isInstruction_33 (by decide) ?_
      obtain rfl := Option.some.inj hf
      exact W.zret (ty := .boolean) hx hb hr rfl (fun t ht hW => ⟨⟨_, (), rfl, ⟨rfl, rfl⟩, trivial⟩, hS.F ht⟩) hS.2.2 dX8_isInstruction_37
  replace hf := x_in c_1 hf
  rcases Classical.em (p1 = 197) with c_3 | c_3
  · refine lv_lookup (off := 37) (tgt := 38) hx hb dX8_isInstruction_1 (by decide) (by rw [c_3]; decide) (by decide) ?_
    replace hf := x_ip c_3 hf
    refine lv_aload_n hx hb dX8_isInstruction_38 rfl (lv_at hl 0 rfl) ?_
    refine va_get (D := (dC, dI)) (ci := 8) (v := .ref o7) (C := RX8) (T := TX8) (N := 6) hx hb hts i_X8_isInstruction_X8 hown hK hP 0 rfl rfl 0 (by decide) k_1 (fun _ h9 => h9) rfl dX8_isInstruction_39 ?_
    refine lv_iload_n hx hb dX8_isInstruction_42 rfl (lv_at hl 2 rfl) ?_
    obtain ⟨r_4, h_4, hf⟩ := x_bi hf
    have hPc := hP.sub (ws' := [(o7, .inr (7, [.ref a7_0, .ref a7_1, .int v7_2]))]) [1] rfl
    refine va_calli (va_runV (As := [.int p2]) (rest := []) ⟨hx, hb, hml, hown, hts⟩ (c_X7_isReference l dC dI cyI cyZ cyJ H.size o7 a7_0 a7_1 v7_2 p2 r_4 h_4) (cwV 1 hts gX8_isInstruction_X7_isReference rfl rfl rfl (by decide +kernel) ⟨Nat.le_of_ble_eq_true rfl, Nat.le_of_ble_eq_true rfl⟩) (x_pV hN hK hPc (ci := 7) (q0 := 0) rfl rfl) rfl rfl hl.1 rfl (lv_room (Nat.le_of_ble_eq_true rfl)) dX8_isInstruction_43 ⟨Nat.le_of_ble_eq_true rfl, Nat.le_of_ble_eq_true rfl⟩) hS x_nA (x_nf hA hS) (fun q_4 u t H1 locs ht hvm hw hB hz1 hk1 hS => ?_)
    have hP := x_kp hP hk1
    clear ht hvm hB hz1 hk1 t u hPc
    generalize H1 = H at hP hS ⊢
    obtain ⟨hw, b_4⟩ := hw
    obtain rfl := hw.symm
    refine lv_if_eq (tgt := 66) hx hb dX8_isInstruction_46 (by decide) (fun c_5 => ?_) (fun c_5 => ?_)
    · replace hf := x_ip c_5 hf
      refine lv_iconst (v := 0) hx hb dX8_isInstruction_66 (by decide) ?_
      obtain rfl := Option.some.inj hf
      exact W.zret (ty := .boolean) hx hb hr rfl (fun t ht hW => ⟨⟨_, (), rfl, ⟨rfl, rfl⟩, trivial⟩, hS.F ht⟩) hS.2.2 dX8_isInstruction_67
    · replace hf := x_in c_5 hf
      refine lv_iload_n hx hb dX8_isInstruction_49 rfl (lv_at hl 3 rfl) ?_
      refine lv_iconst (v := 1) hx hb dX8_isInstruction_50 (by decide) ?_
      refine lv_icmp_lt (tgt := 66) hx hb dX8_isInstruction_51 (by decide) (fun c_6 => ?_) (fun c_6 => ?_)
      · replace hf := x_ip c_6 hf
        refine lv_iconst (v := 0) hx hb dX8_isInstruction_66 (by decide) ?_
        obtain rfl := Option.some.inj hf
        exact W.zret (ty := .boolean) hx hb hr rfl (fun t ht hW => ⟨⟨_, (), rfl, ⟨rfl, rfl⟩, trivial⟩, hS.F ht⟩) hS.2.2 dX8_isInstruction_67
      · replace hf := x_in c_6 hf
        refine lv_iload_n hx hb dX8_isInstruction_54 rfl (lv_at hl 3 rfl) ?_
        refine lv_iload_n hx hb dX8_isInstruction_55 rfl (lv_at hl 2 rfl) ?_
        obtain ⟨r_7, h_7, hf⟩ := x_bi hf
        have hPc := hP.sub (ws' := []) [] rfl
        refine va_calli (va_runS (As := [.int p2]) (rest := [.int p3]) ⟨hx, hb, hml, hown, hts⟩ (c_X7_dimensionsOf l dC dI cyI cyZ cyJ H.size p2 r_7 h_7) (va_cwS 1 hts gX8_isInstruction_X7_dimensionsOf rfl rfl rfl (by decide +kernel) ⟨Nat.le_of_ble_eq_true rfl, Nat.le_of_ble_eq_true rfl⟩) (x_pS hN hK hPc) rfl rfl hl.1 rfl (lv_room (Nat.le_of_ble_eq_true rfl)) dX8_isInstruction_56 ⟨Nat.le_of_ble_eq_true rfl, Nat.le_of_ble_eq_true rfl⟩) hS x_nA (x_nf hA hS) (fun q_7 u t H1 locs ht hvm hw hB hz1 hk1 hS => ?_)
        have hP := x_kp hP hk1
        clear ht hvm hB hz1 hk1 t u hPc
        generalize H1 = H at hP hS ⊢
        obtain rfl := hw.symm
        refine lv_icmp_gt (tgt := 66) hx hb dX8_isInstruction_59 (by decide) (fun c_8 => ?_) (fun c_8 => ?_)
        · replace hf := x_ip c_8 hf
          refine lv_iconst (v := 0) hx hb dX8_isInstruction_66 (by decide) ?_
          obtain rfl := Option.some.inj hf
          exact W.zret (ty := .boolean) hx hb hr rfl (fun t ht hW => ⟨⟨_, (), rfl, ⟨rfl, rfl⟩, trivial⟩, hS.F ht⟩) hS.2.2 dX8_isInstruction_67
        · replace hf := x_in c_8 hf
          refine lv_iconst (v := 1) hx hb dX8_isInstruction_62 (by decide) ?_
          refine lv_goto (tgt := 67) hx hb dX8_isInstruction_63 (by decide) ?_
          obtain rfl := Option.some.inj hf
          exact W.zret (ty := .boolean) hx hb hr rfl (fun t ht hW => ⟨⟨_, (), rfl, ⟨rfl, rfl⟩, trivial⟩, hS.F ht⟩) hS.2.2 dX8_isInstruction_67
  replace hf := x_in c_3 hf
  refine lv_lookup (off := 67) (tgt := 68) hx hb dX8_isInstruction_1 (by decide) ((lv_osw (k := 132) c_1 (by decide)).trans ((lv_osw (k := 197) c_3 (by decide)).trans rfl)) (by decide) ?_
  refine lv_iload_n hx hb dX8_isInstruction_68 rfl (lv_at hl 3 rfl) ?_
  refine lv_if_ne (tgt := 85) hx hb dX8_isInstruction_69 (by decide) (fun c_9 => ?_) (fun c_9 => ?_)
  · replace hf := x_in c_9 hf
    refine lv_iconst (v := 0) hx hb dX8_isInstruction_85 (by decide) ?_
    obtain rfl := Option.some.inj hf
    exact W.zret (ty := .boolean) hx hb hr rfl (fun t ht hW => ⟨⟨_, (), rfl, ⟨rfl, rfl⟩, trivial⟩, hS.F ht⟩) hS.2.2 dX8_isInstruction_86
  · replace hf := x_ip c_9 hf
    refine lv_aload_n hx hb dX8_isInstruction_72 rfl (lv_at hl 0 rfl) ?_
    refine lv_iload_n hx hb dX8_isInstruction_73 rfl (lv_at hl 1 rfl) ?_
    refine lv_iload_n hx hb dX8_isInstruction_74 rfl (lv_at hl 2 rfl) ?_
    obtain ⟨r_10, h_10, hf⟩ := x_bi hf
    have hPc := hP.sub (ws' := [(o8, .inr (8, [.ref o7, .ref o4, .ref o0, .ref o1, .ref o3, .ref o2])), (o7, .inr (7, [.ref a7_0, .ref a7_1, .int v7_2])), (o4, .inr (4, [.ref a4_0, .ref a4_1, .int v4_2, .ref a4_3, .ref a4_4, .ref a4_5, .ref a4_6, .ref a4_7, .int v4_8]))]) [0, 1, 2] rfl
    refine va_calli (va_runV (As := [.int p1, .int p2]) (rest := []) ⟨hx, hb, hml, hown, hts⟩ (c_X8_isOperand l dC dI cyI cyZ cyJ H.size o8 o7 o4 o0 o1 o3 o2 a7_0 a7_1 v7_2 a4_0 a4_1 v4_2 a4_3 a4_4 a4_5 a4_6 a4_7 v4_8 p1 p2 r_10 h_10) (cwV 2 hts gX8_isInstruction_X8_isOperand rfl rfl rfl (by decide +kernel) ⟨Nat.le_of_ble_eq_true rfl, Nat.le_of_ble_eq_true rfl⟩) (x_pV hN hK hPc (ci := 8) (q0 := 0) rfl rfl) rfl rfl hl.1 rfl (lv_room (Nat.le_of_ble_eq_true rfl)) dX8_isInstruction_75 ⟨Nat.le_of_ble_eq_true rfl, Nat.le_of_ble_eq_true rfl⟩) hS x_nA (x_nf hA hS) (fun q_10 u t H1 locs ht hvm hw hB hz1 hk1 hS => ?_)
    have hP := x_kp hP hk1
    clear ht hvm hB hz1 hk1 t u hPc
    generalize H1 = H at hP hS ⊢
    obtain ⟨hw, b_10⟩ := hw
    obtain rfl := hw.symm
    refine lv_if_eq (tgt := 85) hx hb dX8_isInstruction_78 (by decide) (fun c_11 => ?_) (fun c_11 => ?_)
    · replace hf := x_ip c_11 hf
      refine lv_iconst (v := 0) hx hb dX8_isInstruction_85 (by decide) ?_
      obtain rfl := Option.some.inj hf
      exact W.zret (ty := .boolean) hx hb hr rfl (fun t ht hW => ⟨⟨_, (), rfl, ⟨rfl, rfl⟩, trivial⟩, hS.F ht⟩) hS.2.2 dX8_isInstruction_86
    · replace hf := x_in c_11 hf
      refine lv_iconst (v := 1) hx hb dX8_isInstruction_81 (by decide) ?_
      refine lv_goto (tgt := 86) hx hb dX8_isInstruction_82 (by decide) ?_
      obtain rfl := Option.some.inj hf
      exact W.zret (ty := .boolean) hx hb hr rfl (fun t ht hW => ⟨⟨_, (), rfl, ⟨rfl, rfl⟩, trivial⟩, hS.F ht⟩) hS.2.2 dX8_isInstruction_86

