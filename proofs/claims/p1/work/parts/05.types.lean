def f_X7_isClass (p0 : Int32) : Int32 := if p0 < (0 : Int32) then 0 else if (4 : Int32) ≤ p0 then 0 else 1
theorem b_X7_isClass (p0 : Int32) : x_nb (f_X7_isClass p0) := (x_ite rfl (x_ite rfl rfl))
theorem i_X7_isClass_X7 : ∀ w ∈ wsX70, w ∈ wsX7_isClass := by decide +kernel
set_option maxHeartbeats 4000000 in
set_option maxRecDepth 100000 in
theorem c_X7_isClass (l : Launch) (dC : Nat → ClassId) (dI : Nat → Nat → Nat) (cyI cyZ cyJ : ClassId) (sz : Nat) (h0 : Nat) (h1 : Nat) (h2 : Nat) (p0 : Int32) : Met l yX7_isClass wsX7_isClass ({ frames := 0, cells := 0, slots := 0, locals := 0 }) (va_Pc [.ref h0, .int p0] (x_Pre (dC, dI) (x_T cyI cyZ cyJ) [(h0, .inr (7, [.ref h1, .ref h2, .int 4]))] sz)) (va_Qi (fun (r : Int32) (_ : Unit) => r = f_X7_isClass p0) (fun _ _ => True) (x_new sz)) 0 0 (x_new sz) := by
  refine Met.ofW (cc := cX7_isClass) (maxL := 2) (ret := (some .boolean)) (by decide) rfl ?_
  intro p e s m args below meth c s₁ B hml hv
  obtain ⟨rfl, hsz, hP, hK, hN⟩ := hv
  have hx := B.exec
  have hb := B.bytes
  have hr := B.returns
  have hts := atoms_spec (ws := wsX7_isClass) B.pre
  have hown : s.vm.findClass RX7 = some m.cls := findClass_of_methodNamed B.named
  have hlocks := B.notSynchronized
  have k_1 := hts (.fieldLink RX7 19 "FlowJudge$Types" "count" "I") (by decide +kernel)
  subst hsz
  have hA : ∀ q : Nat, s.heap.size ≤ q → x_new s.heap.size q := fun _ h => h
  have hS : va_S (x_new s.heap.size) s.heap s.heap [] := va_S.rf
  have hP : va_P (dC, dI) vwCl [(h0, .inr (7, [.ref h1, .ref h2, .int 4]))] s.heap := hP
  have hl := lv_entry ([.ref h0, .int p0]) (n := 2) (Nat.le_of_ble_eq_true rfl)
  rw [lg_entry_eq]
  generalize (lg_sl ([.ref h0, .int p0]) ++ List.replicate (2 - (lg_sl ([.ref h0, .int p0])).length) Slot.unset).toArray = ls at hl ⊢
  have hl : lv_has ls 2 [(0, .ref h0), (1, .int p0)] := hl
  obtain ⟨H, hH⟩ : ∃ z, z = s.heap := ⟨_, rfl⟩
  refine x_here hH ?_
  have hP : va_P (dC, dI) vwCl [(h0, .inr (7, [.ref h1, .ref h2, .int 4]))] H := by rw [hH]; exact hP
  have hS : va_S (x_new s.heap.size) s.heap H [] := by rw [hH]; exact va_S.rf
  clear hH
  refine lv_iload_n hx hb dX7_isClass_0 rfl (lv_at hl 1 rfl) ?_
  refine lv_if_lt (tgt := 16) hx hb dX7_isClass_1 (by decide) (fun c_1 => ?_) (fun c_1 => ?_)
  · skip
    refine lv_iconst (v := 0) hx hb dX7_isClass_16 (by decide) ?_
    exact W.zret (ty := .boolean) hx hb hr rfl (fun t ht hW => ⟨⟨_, (), rfl, by rw [f_X7_isClass, if_pos c_1], trivial⟩, hS.F ht⟩) hS.2.2 dX7_isClass_17
  · skip
    refine lv_iload_n hx hb dX7_isClass_4 rfl (lv_at hl 1 rfl) ?_
    refine lv_aload_n hx hb dX7_isClass_5 rfl (lv_at hl 0 rfl) ?_
    refine va_get (D := (dC, dI)) (ci := 7) (v := .int 4) (C := RX7) (T := TX7) (N := 3) hx hb hts i_X7_isClass_X7 hown hK hP 0 rfl rfl 2 (by decide) k_1 (fun _ h9 => h9) rfl dX7_isClass_6 ?_
    refine lv_icmp_ge (tgt := 16) hx hb dX7_isClass_9 (by decide) (fun c_2 => ?_) (fun c_2 => ?_)
    · skip
      refine lv_iconst (v := 0) hx hb dX7_isClass_16 (by decide) ?_
      exact W.zret (ty := .boolean) hx hb hr rfl (fun t ht hW => ⟨⟨_, (), rfl, by rw [f_X7_isClass, if_neg c_1, if_pos c_2], trivial⟩, hS.F ht⟩) hS.2.2 dX7_isClass_17
    · skip
      refine lv_iconst (v := 1) hx hb dX7_isClass_12 (by decide) ?_
      refine lv_goto (tgt := 17) hx hb dX7_isClass_13 (by decide) ?_
      exact W.zret (ty := .boolean) hx hb hr rfl (fun t ht hW => ⟨⟨_, (), rfl, by rw [f_X7_isClass, if_neg c_1, if_neg c_2], trivial⟩, hS.F ht⟩) hS.2.2 dX7_isClass_17

def f_X7_dimensionsOf (p0 : Int32) : Int32 := (x_ush p0 16)
set_option maxHeartbeats 4000000 in
set_option maxRecDepth 100000 in
theorem c_X7_dimensionsOf (l : Launch) (dC : Nat → ClassId) (dI : Nat → Nat → Nat) (cyI cyZ cyJ : ClassId) (sz : Nat) (p0 : Int32) : Met l yX7_dimensionsOf wsX7_dimensionsOf ({ frames := 0, cells := 0, slots := 0, locals := 0 }) (va_Pc [.int p0] (x_Pre (dC, dI) (x_T cyI cyZ cyJ) [] sz)) (va_Qi (fun (r : Int32) (_ : Unit) => r = f_X7_dimensionsOf p0) (fun _ _ => True) (x_new sz)) 0 0 (x_new sz) := by
  refine Met.ofW (cc := cX7_dimensionsOf) (maxL := 1) (ret := (some .int)) (by decide) rfl ?_
  intro p e s m args below meth c s₁ B hml hv
  obtain ⟨rfl, hsz, hP, hK, hN⟩ := hv
  have hx := B.exec
  have hb := B.bytes
  have hr := B.returns
  have hts := atoms_spec (ws := wsX7_dimensionsOf) B.pre
  have hown : s.vm.findClass RX7 = some m.cls := findClass_of_methodNamed B.named
  have hlocks := B.notSynchronized
  subst hsz
  have hA : ∀ q : Nat, s.heap.size ≤ q → x_new s.heap.size q := fun _ h => h
  have hS : va_S (x_new s.heap.size) s.heap s.heap [] := va_S.rf
  have hP : va_P (dC, dI) vwCl [] s.heap := hP
  have hl := lv_entry ([.int p0]) (n := 1) (Nat.le_of_ble_eq_true rfl)
  rw [lg_entry_eq]
  generalize (lg_sl ([.int p0]) ++ List.replicate (1 - (lg_sl ([.int p0])).length) Slot.unset).toArray = ls at hl ⊢
  have hl : lv_has ls 1 [(0, .int p0)] := hl
  obtain ⟨H, hH⟩ : ∃ z, z = s.heap := ⟨_, rfl⟩
  refine x_here hH ?_
  have hP : va_P (dC, dI) vwCl [] H := by rw [hH]; exact hP
  have hS : va_S (x_new s.heap.size) s.heap H [] := by rw [hH]; exact va_S.rf
  clear hH
  refine lv_iload_n hx hb dX7_dimensionsOf_0 rfl (lv_at hl 0 rfl) ?_
  refine lv_bipush (v := 16) hx hb dX7_dimensionsOf_1 (by decide) ?_
  refine lv_iushr (v := (x_ush p0 16)) hx hb dX7_dimensionsOf_3 rfl ?_
  exact W.iret hx hb hr (fun t ht hW => ⟨⟨_, (), rfl, rfl, trivial⟩, hS.F ht⟩) hS.2.2 dX7_dimensionsOf_4

def f_X7_isPrimitive (p0 : Int32) : Int32 := if p0 < (65528 : Int32) then 0 else if (65536 : Int32) ≤ p0 then 0 else 1
theorem b_X7_isPrimitive (p0 : Int32) : x_nb (f_X7_isPrimitive p0) := (x_ite rfl (x_ite rfl rfl))
set_option maxHeartbeats 4000000 in
set_option maxRecDepth 100000 in
theorem c_X7_isPrimitive (l : Launch) (dC : Nat → ClassId) (dI : Nat → Nat → Nat) (cyI cyZ cyJ : ClassId) (sz : Nat) (p0 : Int32) : Met l yX7_isPrimitive wsX7_isPrimitive ({ frames := 0, cells := 0, slots := 0, locals := 0 }) (va_Pc [.int p0] (x_Pre (dC, dI) (x_T cyI cyZ cyJ) [] sz)) (va_Qi (fun (r : Int32) (_ : Unit) => r = f_X7_isPrimitive p0) (fun _ _ => True) (x_new sz)) 0 0 (x_new sz) := by
  refine Met.ofW (cc := cX7_isPrimitive) (maxL := 1) (ret := (some .boolean)) (by decide) rfl ?_
  intro p e s m args below meth c s₁ B hml hv
  obtain ⟨rfl, hsz, hP, hK, hN⟩ := hv
  have hx := B.exec
  have hb := B.bytes
  have hr := B.returns
  have hts := atoms_spec (ws := wsX7_isPrimitive) B.pre
  have hown : s.vm.findClass RX7 = some m.cls := findClass_of_methodNamed B.named
  have hlocks := B.notSynchronized
  have k_1 := hts (.constant RX7 28 (65528)) (by decide +kernel)
  have k_2 := hts (.constant RX7 36 (65536)) (by decide +kernel)
  subst hsz
  have hA : ∀ q : Nat, s.heap.size ≤ q → x_new s.heap.size q := fun _ h => h
  have hS : va_S (x_new s.heap.size) s.heap s.heap [] := va_S.rf
  have hP : va_P (dC, dI) vwCl [] s.heap := hP
  have hl := lv_entry ([.int p0]) (n := 1) (Nat.le_of_ble_eq_true rfl)
  rw [lg_entry_eq]
  generalize (lg_sl ([.int p0]) ++ List.replicate (1 - (lg_sl ([.int p0])).length) Slot.unset).toArray = ls at hl ⊢
  have hl : lv_has ls 1 [(0, .int p0)] := hl
  obtain ⟨H, hH⟩ : ∃ z, z = s.heap := ⟨_, rfl⟩
  refine x_here hH ?_
  have hP : va_P (dC, dI) vwCl [] H := by rw [hH]; exact hP
  have hS : va_S (x_new s.heap.size) s.heap H [] := by rw [hH]; exact va_S.rf
  clear hH
  refine lv_iload_n hx hb dX7_isPrimitive_0 rfl (lv_at hl 0 rfl) ?_
  refine lv_ldc (v := 65528) hx hb hown k_1 dX7_isPrimitive_1 ?_
  refine lv_icmp_lt (tgt := 16) hx hb dX7_isPrimitive_3 (by decide) (fun c_1 => ?_) (fun c_1 => ?_)
  · skip
    refine lv_iconst (v := 0) hx hb dX7_isPrimitive_16 (by decide) ?_
    exact W.zret (ty := .boolean) hx hb hr rfl (fun t ht hW => ⟨⟨_, (), rfl, by rw [f_X7_isPrimitive, if_pos c_1], trivial⟩, hS.F ht⟩) hS.2.2 dX7_isPrimitive_17
  · skip
    refine lv_iload_n hx hb dX7_isPrimitive_6 rfl (lv_at hl 0 rfl) ?_
    refine lv_ldc (v := 65536) hx hb hown k_2 dX7_isPrimitive_7 ?_
    refine lv_icmp_ge (tgt := 16) hx hb dX7_isPrimitive_9 (by decide) (fun c_2 => ?_) (fun c_2 => ?_)
    · skip
      refine lv_iconst (v := 0) hx hb dX7_isPrimitive_16 (by decide) ?_
      exact W.zret (ty := .boolean) hx hb hr rfl (fun t ht hW => ⟨⟨_, (), rfl, by rw [f_X7_isPrimitive, if_neg c_1, if_pos c_2], trivial⟩, hS.F ht⟩) hS.2.2 dX7_isPrimitive_17
    · skip
      refine lv_iconst (v := 1) hx hb dX7_isPrimitive_12 (by decide) ?_
      refine lv_goto (tgt := 17) hx hb dX7_isPrimitive_13 (by decide) ?_
      exact W.zret (ty := .boolean) hx hb hr rfl (fun t ht hW => ⟨⟨_, (), rfl, by rw [f_X7_isPrimitive, if_neg c_1, if_neg c_2], trivial⟩, hS.F ht⟩) hS.2.2 dX7_isPrimitive_17

def f_X7_widthOf (p0 : Int32) : Int32 := if p0 = (65535 : Int32) then 2 else if p0 = (65531 : Int32) then 2 else 1
set_option maxHeartbeats 4000000 in
set_option maxRecDepth 100000 in
theorem c_X7_widthOf (l : Launch) (dC : Nat → ClassId) (dI : Nat → Nat → Nat) (cyI cyZ cyJ : ClassId) (sz : Nat) (p0 : Int32) : Met l yX7_widthOf wsX7_widthOf ({ frames := 0, cells := 0, slots := 0, locals := 0 }) (va_Pc [.int p0] (x_Pre (dC, dI) (x_T cyI cyZ cyJ) [] sz)) (va_Qi (fun (r : Int32) (_ : Unit) => r = f_X7_widthOf p0) (fun _ _ => True) (x_new sz)) 0 0 (x_new sz) := by
  refine Met.ofW (cc := cX7_widthOf) (maxL := 1) (ret := (some .int)) (by decide) rfl ?_
  intro p e s m args below meth c s₁ B hml hv
  obtain ⟨rfl, hsz, hP, hK, hN⟩ := hv
  have hx := B.exec
  have hb := B.bytes
  have hr := B.returns
  have hts := atoms_spec (ws := wsX7_widthOf) B.pre
  have hown : s.vm.findClass RX7 = some m.cls := findClass_of_methodNamed B.named
  have hlocks := B.notSynchronized
  have k_1 := hts (.constant RX7 23 (65535)) (by decide +kernel)
  have k_2 := hts (.constant RX7 37 (65531)) (by decide +kernel)
  subst hsz
  have hA : ∀ q : Nat, s.heap.size ≤ q → x_new s.heap.size q := fun _ h => h
  have hS : va_S (x_new s.heap.size) s.heap s.heap [] := va_S.rf
  have hP : va_P (dC, dI) vwCl [] s.heap := hP
  have hl := lv_entry ([.int p0]) (n := 1) (Nat.le_of_ble_eq_true rfl)
  rw [lg_entry_eq]
  generalize (lg_sl ([.int p0]) ++ List.replicate (1 - (lg_sl ([.int p0])).length) Slot.unset).toArray = ls at hl ⊢
  have hl : lv_has ls 1 [(0, .int p0)] := hl
  obtain ⟨H, hH⟩ : ∃ z, z = s.heap := ⟨_, rfl⟩
  refine x_here hH ?_
  have hP : va_P (dC, dI) vwCl [] H := by rw [hH]; exact hP
  have hS : va_S (x_new s.heap.size) s.heap H [] := by rw [hH]; exact va_S.rf
  clear hH
  refine lv_iload_n hx hb dX7_widthOf_0 rfl (lv_at hl 0 rfl) ?_
  refine lv_ldc (v := 65535) hx hb hown k_1 dX7_widthOf_1 ?_
  refine lv_icmp_eq (tgt := 12) hx hb dX7_widthOf_3 (by decide) (fun c_1 => ?_) (fun c_1 => ?_)
  · skip
    refine lv_iconst (v := 2) hx hb dX7_widthOf_12 (by decide) ?_
    refine lv_goto (tgt := 17) hx hb dX7_widthOf_13 (by decide) ?_
    exact W.iret hx hb hr (fun t ht hW => ⟨⟨_, (), rfl, by rw [f_X7_widthOf, if_pos c_1], trivial⟩, hS.F ht⟩) hS.2.2 dX7_widthOf_17
  · skip
    refine lv_iload_n hx hb dX7_widthOf_6 rfl (lv_at hl 0 rfl) ?_
    refine lv_ldc (v := 65531) hx hb hown k_2 dX7_widthOf_7 ?_
    refine lv_icmp_ne (tgt := 16) hx hb dX7_widthOf_9 (by decide) (fun c_2 => ?_) (fun c_2 => ?_)
    · skip
      refine lv_iconst (v := 1) hx hb dX7_widthOf_16 (by decide) ?_
      exact W.iret hx hb hr (fun t ht hW => ⟨⟨_, (), rfl, by rw [f_X7_widthOf, if_neg c_1, if_neg c_2], trivial⟩, hS.F ht⟩) hS.2.2 dX7_widthOf_17
    · skip
      refine lv_iconst (v := 2) hx hb dX7_widthOf_12 (by decide) ?_
      refine lv_goto (tgt := 17) hx hb dX7_widthOf_13 (by decide) ?_
      exact W.iret hx hb hr (fun t ht hW => ⟨⟨_, (), rfl, by rw [f_X7_widthOf, if_neg c_1, if_pos c_2], trivial⟩, hS.F ht⟩) hS.2.2 dX7_widthOf_17

def f_X7_isType (p0 : Int32) : Int32 := if p0 < (0 : Int32) then 0 else if (255 : Int32) < (f_X7_dimensionsOf p0) then 0 else if (p0 &&& 65535) < (4 : Int32) then 1 else if (p0 &&& 65535) < (65528 : Int32) then 0 else 1
theorem b_X7_isType (p0 : Int32) : x_nb (f_X7_isType p0) := (x_ite rfl (x_ite rfl (x_ite rfl (x_ite rfl rfl))))
theorem i_X7_isType_X7 : ∀ w ∈ wsX70, w ∈ wsX7_isType := by decide +kernel
set_option maxHeartbeats 4000000 in
set_option maxRecDepth 100000 in
theorem c_X7_isType (l : Launch) (dC : Nat → ClassId) (dI : Nat → Nat → Nat) (cyI cyZ cyJ : ClassId) (sz : Nat) (h0 : Nat) (h1 : Nat) (h2 : Nat) (p0 : Int32) : Met l yX7_isType wsX7_isType ({ frames := 1, cells := 0, slots := 0, locals := 20 }) (va_Pc [.ref h0, .int p0] (x_Pre (dC, dI) (x_T cyI cyZ cyJ) [(h0, .inr (7, [.ref h1, .ref h2, .int 4]))] sz)) (va_Qi (fun (r : Int32) (_ : Unit) => r = f_X7_isType p0) (fun _ _ => True) (x_new sz)) 0 0 (x_new sz) := by
  refine Met.ofW (cc := cX7_isType) (maxL := 3) (ret := (some .boolean)) (by decide) rfl ?_
  intro p e s m args below meth c s₁ B hml hv
  obtain ⟨rfl, hsz, hP, hK, hN⟩ := hv
  have hx := B.exec
  have hb := B.bytes
  have hr := B.returns
  have hts := atoms_spec (ws := wsX7_isType) B.pre
  have hown : s.vm.findClass RX7 = some m.cls := findClass_of_methodNamed B.named
  have hlocks := B.notSynchronized
  have k_1 := hts (.constant RX7 23 (65535)) (by decide +kernel)
  have k_2 := hts (.fieldLink RX7 19 "FlowJudge$Types" "count" "I") (by decide +kernel)
  have k_3 := hts (.constant RX7 28 (65528)) (by decide +kernel)
  subst hsz
  have hA : ∀ q : Nat, s.heap.size ≤ q → x_new s.heap.size q := fun _ h => h
  have hS : va_S (x_new s.heap.size) s.heap s.heap [] := va_S.rf
  have hP : va_P (dC, dI) vwCl [(h0, .inr (7, [.ref h1, .ref h2, .int 4]))] s.heap := hP
  have hl := lv_entry ([.ref h0, .int p0]) (n := 3) (Nat.le_of_ble_eq_true rfl)
  rw [lg_entry_eq]
  generalize (lg_sl ([.ref h0, .int p0]) ++ List.replicate (3 - (lg_sl ([.ref h0, .int p0])).length) Slot.unset).toArray = ls at hl ⊢
  have hl : lv_has ls 3 [(0, .ref h0), (1, .int p0)] := hl
  obtain ⟨H, hH⟩ : ∃ z, z = s.heap := ⟨_, rfl⟩
  refine x_here hH ?_
  have hP : va_P (dC, dI) vwCl [(h0, .inr (7, [.ref h1, .ref h2, .int 4]))] H := by rw [hH]; exact hP
  have hS : va_S (x_new s.heap.size) s.heap H [] := by rw [hH]; exact va_S.rf
  clear hH
  refine lv_iload_n hx hb dX7_isType_0 rfl (lv_at hl 1 rfl) ?_
  refine lv_ldc (v := 65535) hx hb hown k_1 dX7_isType_1 ?_
  refine lv_iand hx hb dX7_isType_3 ?_
  refine lv_istore_n (lv' := [(2, .int (p0 &&& 65535)), (0, .ref h0), (1, .int p0)]) hx hb dX7_isType_4 rfl hl (by decide) rfl (fun ls hl => ?_)
  refine lv_iload_n hx hb dX7_isType_5 rfl (lv_at hl 2 rfl) ?_
  refine lv_if_lt (tgt := 37) hx hb dX7_isType_6 (by decide) (fun c_1 => ?_) (fun c_1 => ?_)
  · skip
    refine lv_iconst (v := 0) hx hb dX7_isType_37 (by decide) ?_
    exact W.zret (ty := .boolean) hx hb hr rfl (fun t ht hW => ⟨⟨_, (), rfl, by rw [f_X7_isType, if_pos c_1], trivial⟩, hS.F ht⟩) hS.2.2 dX7_isType_38
  · skip
    refine lv_iload_n hx hb dX7_isType_9 rfl (lv_at hl 2 rfl) ?_
    have hPc := hP.sub (ws' := []) [] rfl
    refine va_calli (va_runS (As := [.int p0]) (rest := []) ⟨hx, hb, hml, hown, hts⟩ (c_X7_dimensionsOf l dC dI cyI cyZ cyJ H.size p0) (va_cwS 1 hts gX7_isType_X7_dimensionsOf rfl rfl rfl (by decide +kernel) ⟨Nat.le_of_ble_eq_true rfl, Nat.le_of_ble_eq_true rfl⟩) (x_pS hN hK hPc) rfl rfl hl.1 rfl (lv_room (Nat.le_of_ble_eq_true rfl)) dX7_isType_10 ⟨Nat.le_of_ble_eq_true rfl, Nat.le_of_ble_eq_true rfl⟩) hS x_nA (x_nf hA hS) (fun r_10 u t H1 locs ht hvm hw hB hz1 hk1 hS => ?_)
    have hP := x_kp hP hk1
    clear ht hvm hB hz1 hk1 t u hPc
    generalize H1 = H at hP hS ⊢
    obtain rfl := hw
    refine lv_sipush (v := 255) hx hb dX7_isType_13 (by decide) ?_
    refine lv_icmp_gt (tgt := 37) hx hb dX7_isType_16 (by decide) (fun c_2 => ?_) (fun c_2 => ?_)
    · skip
      refine lv_iconst (v := 0) hx hb dX7_isType_37 (by decide) ?_
      exact W.zret (ty := .boolean) hx hb hr rfl (fun t ht hW => ⟨⟨_, (), rfl, by rw [f_X7_isType, if_neg c_1, if_pos c_2], trivial⟩, hS.F ht⟩) hS.2.2 dX7_isType_38
    · skip
      refine lv_iload_n hx hb dX7_isType_19 rfl (lv_at hl 0 rfl) ?_
      refine lv_aload_n hx hb dX7_isType_20 rfl (lv_at hl 1 rfl) ?_
      refine va_get (D := (dC, dI)) (ci := 7) (v := .int 4) (C := RX7) (T := TX7) (N := 3) hx hb hts i_X7_isType_X7 hown hK hP 0 rfl rfl 2 (by decide) k_2 (fun _ h9 => h9) rfl dX7_isType_21 ?_
      refine lv_icmp_lt (tgt := 33) hx hb dX7_isType_24 (by decide) (fun c_3 => ?_) (fun c_3 => ?_)
      · skip
        refine lv_iconst (v := 1) hx hb dX7_isType_33 (by decide) ?_
        refine lv_goto (tgt := 38) hx hb dX7_isType_34 (by decide) ?_
        exact W.zret (ty := .boolean) hx hb hr rfl (fun t ht hW => ⟨⟨_, (), rfl, by rw [f_X7_isType, if_neg c_1, if_neg c_2, if_pos c_3], trivial⟩, hS.F ht⟩) hS.2.2 dX7_isType_38
      · skip
        refine lv_iload_n hx hb dX7_isType_27 rfl (lv_at hl 0 rfl) ?_
        refine lv_ldc (v := 65528) hx hb hown k_3 dX7_isType_28 ?_
        refine lv_icmp_lt (tgt := 37) hx hb dX7_isType_30 (by decide) (fun c_4 => ?_) (fun c_4 => ?_)
        · skip
          refine lv_iconst (v := 0) hx hb dX7_isType_37 (by decide) ?_
          exact W.zret (ty := .boolean) hx hb hr rfl (fun t ht hW => ⟨⟨_, (), rfl, by rw [f_X7_isType, if_neg c_1, if_neg c_2, if_neg c_3, if_pos c_4], trivial⟩, hS.F ht⟩) hS.2.2 dX7_isType_38
        · skip
          refine lv_iconst (v := 1) hx hb dX7_isType_33 (by decide) ?_
          refine lv_goto (tgt := 38) hx hb dX7_isType_34 (by decide) ?_
          exact W.zret (ty := .boolean) hx hb hr rfl (fun t ht hW => ⟨⟨_, (), rfl, by rw [f_X7_isType, if_neg c_1, if_neg c_2, if_neg c_3, if_neg c_4], trivial⟩, hS.F ht⟩) hS.2.2 dX7_isType_38

def f_X7_isReference (p0 : Int32) : Int32 := if (f_X7_isType p0) = (0 : Int32) then 0 else if (f_X7_isPrimitive p0) = (0 : Int32) then 1 else 0
theorem b_X7_isReference (p0 : Int32) : x_nb (f_X7_isReference p0) := (x_ite rfl (x_ite rfl rfl))
set_option maxHeartbeats 4000000 in
set_option maxRecDepth 100000 in
theorem c_X7_isReference (l : Launch) (dC : Nat → ClassId) (dI : Nat → Nat → Nat) (cyI cyZ cyJ : ClassId) (sz : Nat) (h0 : Nat) (h1 : Nat) (h2 : Nat) (p0 : Int32) : Met l yX7_isReference wsX7_isReference ({ frames := 2, cells := 0, slots := 0, locals := 42 }) (va_Pc [.ref h0, .int p0] (x_Pre (dC, dI) (x_T cyI cyZ cyJ) [(h0, .inr (7, [.ref h1, .ref h2, .int 4]))] sz)) (va_Qi (fun (r : Int32) (_ : Unit) => r = f_X7_isReference p0) (fun _ _ => True) (x_new sz)) 0 0 (x_new sz) := by
  refine Met.ofW (cc := cX7_isReference) (maxL := 2) (ret := (some .boolean)) (by decide) rfl ?_
  intro p e s m args below meth c s₁ B hml hv
  obtain ⟨rfl, hsz, hP, hK, hN⟩ := hv
  have hx := B.exec
  have hb := B.bytes
  have hr := B.returns
  have hts := atoms_spec (ws := wsX7_isReference) B.pre
  have hown : s.vm.findClass RX7 = some m.cls := findClass_of_methodNamed B.named
  have hlocks := B.notSynchronized
  subst hsz
  have hA : ∀ q : Nat, s.heap.size ≤ q → x_new s.heap.size q := fun _ h => h
  have hS : va_S (x_new s.heap.size) s.heap s.heap [] := va_S.rf
  have hP : va_P (dC, dI) vwCl [(h0, .inr (7, [.ref h1, .ref h2, .int 4]))] s.heap := hP
  have hl := lv_entry ([.ref h0, .int p0]) (n := 2) (Nat.le_of_ble_eq_true rfl)
  rw [lg_entry_eq]
  generalize (lg_sl ([.ref h0, .int p0]) ++ List.replicate (2 - (lg_sl ([.ref h0, .int p0])).length) Slot.unset).toArray = ls at hl ⊢
  have hl : lv_has ls 2 [(0, .ref h0), (1, .int p0)] := hl
  obtain ⟨H, hH⟩ : ∃ z, z = s.heap := ⟨_, rfl⟩
  refine x_here hH ?_
  have hP : va_P (dC, dI) vwCl [(h0, .inr (7, [.ref h1, .ref h2, .int 4]))] H := by rw [hH]; exact hP
  have hS : va_S (x_new s.heap.size) s.heap H [] := by rw [hH]; exact va_S.rf
  clear hH
  refine lv_aload_n hx hb dX7_isReference_0 rfl (lv_at hl 0 rfl) ?_
  refine lv_iload_n hx hb dX7_isReference_1 rfl (lv_at hl 1 rfl) ?_
  have hPc := hP.sub (ws' := [(h0, .inr (7, [.ref h1, .ref h2, .int 4]))]) [0] rfl
  refine va_calli (va_runV (As := [.int p0]) (rest := []) ⟨hx, hb, hml, hown, hts⟩ (c_X7_isType l dC dI cyI cyZ cyJ H.size h0 h1 h2 p0) (cwV 1 hts gX7_isReference_X7_isType rfl rfl rfl (by decide +kernel) ⟨Nat.le_of_ble_eq_true rfl, Nat.le_of_ble_eq_true rfl⟩) (x_pV hN hK hPc (ci := 7) (q0 := 0) rfl rfl) rfl rfl hl.1 rfl (lv_room (Nat.le_of_ble_eq_true rfl)) dX7_isReference_2 ⟨Nat.le_of_ble_eq_true rfl, Nat.le_of_ble_eq_true rfl⟩) hS x_nA (x_nf hA hS) (fun r_2 u t H1 locs ht hvm hw hB hz1 hk1 hS => ?_)
  have hP := x_kp hP hk1
  clear ht hvm hB hz1 hk1 t u hPc
  generalize H1 = H at hP hS ⊢
  obtain rfl := hw
  refine lv_if_eq (tgt := 19) hx hb dX7_isReference_5 (by decide) (fun c_1 => ?_) (fun c_1 => ?_)
  · skip
    refine lv_iconst (v := 0) hx hb dX7_isReference_19 (by decide) ?_
    exact W.zret (ty := .boolean) hx hb hr rfl (fun t ht hW => ⟨⟨_, (), rfl, by rw [f_X7_isReference, if_pos c_1], trivial⟩, hS.F ht⟩) hS.2.2 dX7_isReference_20
  · skip
    refine lv_iload_n hx hb dX7_isReference_8 rfl (lv_at hl 1 rfl) ?_
    have hPc := hP.sub (ws' := []) [] rfl
    refine va_calli (va_runS (As := [.int p0]) (rest := []) ⟨hx, hb, hml, hown, hts⟩ (c_X7_isPrimitive l dC dI cyI cyZ cyJ H.size p0) (va_cwS 1 hts gX7_isReference_X7_isPrimitive rfl rfl rfl (by decide +kernel) ⟨Nat.le_of_ble_eq_true rfl, Nat.le_of_ble_eq_true rfl⟩) (x_pS hN hK hPc) rfl rfl hl.1 rfl (lv_room (Nat.le_of_ble_eq_true rfl)) dX7_isReference_9 ⟨Nat.le_of_ble_eq_true rfl, Nat.le_of_ble_eq_true rfl⟩) hS x_nA (x_nf hA hS) (fun r_9 u t H1 locs ht hvm hw hB hz1 hk1 hS => ?_)
    have hP := x_kp hP hk1
    clear ht hvm hB hz1 hk1 t u hPc
    generalize H1 = H at hP hS ⊢
    obtain rfl := hw
    refine lv_if_ne (tgt := 19) hx hb dX7_isReference_12 (by decide) (fun c_2 => ?_) (fun c_2 => ?_)
    · skip
      refine lv_iconst (v := 0) hx hb dX7_isReference_19 (by decide) ?_
      exact W.zret (ty := .boolean) hx hb hr rfl (fun t ht hW => ⟨⟨_, (), rfl, by rw [f_X7_isReference, if_neg c_1, if_neg c_2], trivial⟩, hS.F ht⟩) hS.2.2 dX7_isReference_20
    · skip
      refine lv_iconst (v := 1) hx hb dX7_isReference_15 (by decide) ?_
      refine lv_goto (tgt := 20) hx hb dX7_isReference_16 (by decide) ?_
      exact W.zret (ty := .boolean) hx hb hr rfl (fun t ht hW => ⟨⟨_, (), rfl, by rw [f_X7_isReference, if_neg c_1, if_pos c_2], trivial⟩, hS.F ht⟩) hS.2.2 dX7_isReference_20

def f_X7_isResult (p0 : Int32) : Int32 := if p0 = (-1 : Int32) then 1 else if (f_X7_isType p0) = (0 : Int32) then 0 else 1
theorem b_X7_isResult (p0 : Int32) : x_nb (f_X7_isResult p0) := (x_ite rfl (x_ite rfl rfl))
set_option maxHeartbeats 4000000 in
set_option maxRecDepth 100000 in
theorem c_X7_isResult (l : Launch) (dC : Nat → ClassId) (dI : Nat → Nat → Nat) (cyI cyZ cyJ : ClassId) (sz : Nat) (h0 : Nat) (h1 : Nat) (h2 : Nat) (p0 : Int32) : Met l yX7_isResult wsX7_isResult ({ frames := 2, cells := 0, slots := 0, locals := 42 }) (va_Pc [.ref h0, .int p0] (x_Pre (dC, dI) (x_T cyI cyZ cyJ) [(h0, .inr (7, [.ref h1, .ref h2, .int 4]))] sz)) (va_Qi (fun (r : Int32) (_ : Unit) => r = f_X7_isResult p0) (fun _ _ => True) (x_new sz)) 0 0 (x_new sz) := by
  refine Met.ofW (cc := cX7_isResult) (maxL := 2) (ret := (some .boolean)) (by decide) rfl ?_
  intro p e s m args below meth c s₁ B hml hv
  obtain ⟨rfl, hsz, hP, hK, hN⟩ := hv
  have hx := B.exec
  have hb := B.bytes
  have hr := B.returns
  have hts := atoms_spec (ws := wsX7_isResult) B.pre
  have hown : s.vm.findClass RX7 = some m.cls := findClass_of_methodNamed B.named
  have hlocks := B.notSynchronized
  subst hsz
  have hA : ∀ q : Nat, s.heap.size ≤ q → x_new s.heap.size q := fun _ h => h
  have hS : va_S (x_new s.heap.size) s.heap s.heap [] := va_S.rf
  have hP : va_P (dC, dI) vwCl [(h0, .inr (7, [.ref h1, .ref h2, .int 4]))] s.heap := hP
  have hl := lv_entry ([.ref h0, .int p0]) (n := 2) (Nat.le_of_ble_eq_true rfl)
  rw [lg_entry_eq]
  generalize (lg_sl ([.ref h0, .int p0]) ++ List.replicate (2 - (lg_sl ([.ref h0, .int p0])).length) Slot.unset).toArray = ls at hl ⊢
  have hl : lv_has ls 2 [(0, .ref h0), (1, .int p0)] := hl
  obtain ⟨H, hH⟩ : ∃ z, z = s.heap := ⟨_, rfl⟩
  refine x_here hH ?_
  have hP : va_P (dC, dI) vwCl [(h0, .inr (7, [.ref h1, .ref h2, .int 4]))] H := by rw [hH]; exact hP
  have hS : va_S (x_new s.heap.size) s.heap H [] := by rw [hH]; exact va_S.rf
  clear hH
  refine lv_iload_n hx hb dX7_isResult_0 rfl (lv_at hl 1 rfl) ?_
  refine lv_iconst (v := (-1)) hx hb dX7_isResult_1 (by decide) ?_
  refine lv_icmp_eq (tgt := 13) hx hb dX7_isResult_2 (by decide) (fun c_1 => ?_) (fun c_1 => ?_)
  · skip
    refine lv_iconst (v := 1) hx hb dX7_isResult_13 (by decide) ?_
    refine lv_goto (tgt := 18) hx hb dX7_isResult_14 (by decide) ?_
    exact W.zret (ty := .boolean) hx hb hr rfl (fun t ht hW => ⟨⟨_, (), rfl, by rw [f_X7_isResult, if_pos c_1], trivial⟩, hS.F ht⟩) hS.2.2 dX7_isResult_18
  · skip
    refine lv_aload_n hx hb dX7_isResult_5 rfl (lv_at hl 0 rfl) ?_
    refine lv_iload_n hx hb dX7_isResult_6 rfl (lv_at hl 1 rfl) ?_
    have hPc := hP.sub (ws' := [(h0, .inr (7, [.ref h1, .ref h2, .int 4]))]) [0] rfl
    refine va_calli (va_runV (As := [.int p0]) (rest := []) ⟨hx, hb, hml, hown, hts⟩ (c_X7_isType l dC dI cyI cyZ cyJ H.size h0 h1 h2 p0) (cwV 1 hts gX7_isResult_X7_isType rfl rfl rfl (by decide +kernel) ⟨Nat.le_of_ble_eq_true rfl, Nat.le_of_ble_eq_true rfl⟩) (x_pV hN hK hPc (ci := 7) (q0 := 0) rfl rfl) rfl rfl hl.1 rfl (lv_room (Nat.le_of_ble_eq_true rfl)) dX7_isResult_7 ⟨Nat.le_of_ble_eq_true rfl, Nat.le_of_ble_eq_true rfl⟩) hS x_nA (x_nf hA hS) (fun r_7 u t H1 locs ht hvm hw hB hz1 hk1 hS => ?_)
    have hP := x_kp hP hk1
    clear ht hvm hB hz1 hk1 t u hPc
    generalize H1 = H at hP hS ⊢
    obtain rfl := hw
    refine lv_if_eq (tgt := 17) hx hb dX7_isResult_10 (by decide) (fun c_2 => ?_) (fun c_2 => ?_)
    · skip
      refine lv_iconst (v := 0) hx hb dX7_isResult_17 (by decide) ?_
      exact W.zret (ty := .boolean) hx hb hr rfl (fun t ht hW => ⟨⟨_, (), rfl, by rw [f_X7_isResult, if_neg c_1, if_pos c_2], trivial⟩, hS.F ht⟩) hS.2.2 dX7_isResult_18
    · skip
      refine lv_iconst (v := 1) hx hb dX7_isResult_13 (by decide) ?_
      refine lv_goto (tgt := 18) hx hb dX7_isResult_14 (by decide) ?_
      exact W.zret (ty := .boolean) hx hb hr rfl (fun t ht hW => ⟨⟨_, (), rfl, by rw [f_X7_isResult, if_neg c_1, if_neg c_2], trivial⟩, hS.F ht⟩) hS.2.2 dX7_isResult_18

def f_X7_mayClassStand (p0 : Int32) (p1 : Int32) : Int32 := if (4 : Int32) ≤ p0 then 0 else if p1 < (4 : Int32) then if p1 = (0 : Int32) then 1 else if (x_face (Int32.toNatClampNeg p1)) = (0 : Int32) then if p0 ≤ p1 then if p0 = p1 then 1 else 0 else if (0 : Int32) = p1 then 1 else 0 else 1 else 0
theorem b_X7_mayClassStand (p0 : Int32) (p1 : Int32) : x_nb (f_X7_mayClassStand p0 p1) := (x_ite rfl (x_ite (x_ite rfl (x_ite (x_ite (x_ite rfl rfl) (x_ite rfl rfl)) rfl)) rfl))
theorem i_X7_mayClassStand_X7 : ∀ w ∈ wsX70, w ∈ wsX7_mayClassStand := by decide +kernel
set_option maxHeartbeats 4000000 in
set_option maxRecDepth 100000 in
theorem c_X7_mayClassStand (l : Launch) (dC : Nat → ClassId) (dI : Nat → Nat → Nat) (cyI cyZ cyJ : ClassId) (sz : Nat) (h0 : Nat) (h1 : Nat) (h2 : Nat) (p0 : Int32) (p1 : Int32) (hc0 : 0 ≤ p0) (hc1 : 0 ≤ p1) : Met l yX7_mayClassStand wsX7_mayClassStand ({ frames := 0, cells := 0, slots := 0, locals := 0 }) (va_Pc [.ref h0, .int p0, .int p1] (x_Pre (dC, dI) (x_T cyI cyZ cyJ) [(h0, .inr (7, [.ref h1, .ref h2, .int 4])), (h1, .inl (cyI, 200, .inl x_z0)), (h2, .inl (cyZ, 200, .inl x_face))] sz)) (va_Qi (fun (r : Int32) (_ : Unit) => r = f_X7_mayClassStand p0 p1) (fun _ _ => True) (x_new sz)) 0 0 (x_new sz) := by
  refine Met.ofW (cc := cX7_mayClassStand) (maxL := 5) (ret := (some .boolean)) (by decide) rfl ?_
  intro p e s m args below meth c s₁ B hml hv
  obtain ⟨rfl, hsz, hP, hK, hN⟩ := hv
  have hx := B.exec
  have hb := B.bytes
  have hr := B.returns
  have hts := atoms_spec (ws := wsX7_mayClassStand) B.pre
  have hown : s.vm.findClass RX7 = some m.cls := findClass_of_methodNamed B.named
  have hlocks := B.notSynchronized
  have k_1 := hts (.fieldLink RX7 19 "FlowJudge$Types" "count" "I") (by decide +kernel)
  have k_2 := hts (.fieldLink RX7 15 "FlowJudge$Types" "isInterface" "[Z") (by decide +kernel)
  have k_3 := hts (.fieldLink RX7 9 "FlowJudge$Types" "above" "[I") (by decide +kernel)
  subst hsz
  have hA : ∀ q : Nat, s.heap.size ≤ q → x_new s.heap.size q := fun _ h => h
  have hS : va_S (x_new s.heap.size) s.heap s.heap [] := va_S.rf
  have hP : va_P (dC, dI) vwCl [(h0, .inr (7, [.ref h1, .ref h2, .int 4])), (h1, .inl (cyI, 200, .inl x_z0)), (h2, .inl (cyZ, 200, .inl x_face))] s.heap := hP
  have hl := lv_entry ([.ref h0, .int p0, .int p1]) (n := 5) (Nat.le_of_ble_eq_true rfl)
  rw [lg_entry_eq]
  generalize (lg_sl ([.ref h0, .int p0, .int p1]) ++ List.replicate (5 - (lg_sl ([.ref h0, .int p0, .int p1])).length) Slot.unset).toArray = ls at hl ⊢
  have hl : lv_has ls 5 [(0, .ref h0), (1, .int p0), (2, .int p1)] := hl
  obtain ⟨H, hH⟩ : ∃ z, z = s.heap := ⟨_, rfl⟩
  refine x_here hH ?_
  have hP : va_P (dC, dI) vwCl [(h0, .inr (7, [.ref h1, .ref h2, .int 4])), (h1, .inl (cyI, 200, .inl x_z0)), (h2, .inl (cyZ, 200, .inl x_face))] H := by rw [hH]; exact hP
  have hS : va_S (x_new s.heap.size) s.heap H [] := by rw [hH]; exact va_S.rf
  clear hH
  refine lv_iload_n hx hb dX7_mayClassStand_0 rfl (lv_at hl 1 rfl) ?_
  refine lv_aload_n hx hb dX7_mayClassStand_1 rfl (lv_at hl 0 rfl) ?_
  refine va_get (D := (dC, dI)) (ci := 7) (v := .int 4) (C := RX7) (T := TX7) (N := 3) hx hb hts i_X7_mayClassStand_X7 hown hK hP 0 rfl rfl 2 (by decide) k_1 (fun _ h9 => h9) rfl dX7_mayClassStand_2 ?_
  refine lv_icmp_ge (tgt := 16) hx hb dX7_mayClassStand_5 (by decide) (fun c_1 => ?_) (fun c_1 => ?_)
  · skip
    refine lv_iconst (v := 0) hx hb dX7_mayClassStand_16 (by decide) ?_
    exact W.zret (ty := .boolean) hx hb hr rfl (fun t ht hW => ⟨⟨_, (), rfl, by rw [f_X7_mayClassStand, if_pos c_1], trivial⟩, hS.F ht⟩) hS.2.2 dX7_mayClassStand_17
  · skip
    refine lv_iload_n hx hb dX7_mayClassStand_8 rfl (lv_at hl 2 rfl) ?_
    refine lv_aload_n hx hb dX7_mayClassStand_9 rfl (lv_at hl 0 rfl) ?_
    refine va_get (D := (dC, dI)) (ci := 7) (v := .int 4) (C := RX7) (T := TX7) (N := 3) hx hb hts i_X7_mayClassStand_X7 hown hK hP 0 rfl rfl 2 (by decide) k_1 (fun _ h9 => h9) rfl dX7_mayClassStand_10 ?_
    refine lv_icmp_lt (tgt := 18) hx hb dX7_mayClassStand_13 (by decide) (fun c_2 => ?_) (fun c_2 => ?_)
    · skip
      refine lv_iload_n hx hb dX7_mayClassStand_18 rfl (lv_at hl 2 rfl) ?_
      refine lv_if_eq (tgt := 31) hx hb dX7_mayClassStand_19 (by decide) (fun c_3 => ?_) (fun c_3 => ?_)
      · skip
        refine lv_iconst (v := 1) hx hb dX7_mayClassStand_31 (by decide) ?_
        exact W.zret (ty := .boolean) hx hb hr rfl (fun t ht hW => ⟨⟨_, (), rfl, by rw [f_X7_mayClassStand, if_neg c_1, if_pos c_2, if_pos c_3], trivial⟩, hS.F ht⟩) hS.2.2 dX7_mayClassStand_32
      · skip
        refine lv_aload_n hx hb dX7_mayClassStand_22 rfl (lv_at hl 0 rfl) ?_
        refine va_get (D := (dC, dI)) (ci := 7) (v := .ref h2) (C := RX7) (T := TX7) (N := 3) hx hb hts i_X7_mayClassStand_X7 hown hK hP 0 rfl rfl 1 (by decide) k_2 (fun _ h9 => h9) rfl dX7_mayClassStand_23 ?_
        refine lv_iload_n hx hb dX7_mayClassStand_26 rfl (lv_at hl 2 rfl) ?_
        refine va_zald hx hb hK hP 2 1 rfl rfl (x_in4 hc1 (by assumption)) dX7_mayClassStand_27 ?_
        refine lv_if_eq (tgt := 33) hx hb dX7_mayClassStand_28 (by decide) (fun c_4 => ?_) (fun c_4 => ?_)
        · skip
          refine lv_iload_n hx hb dX7_mayClassStand_33 rfl (lv_at hl 1 rfl) ?_
          refine lv_istore_n (lv' := [(3, .int p0), (0, .ref h0), (1, .int p0), (2, .int p1)]) hx hb dX7_mayClassStand_34 rfl hl (by decide) rfl (fun ls hl => ?_)
          refine lv_iconst (v := 0) hx hb dX7_mayClassStand_35 (by decide) ?_
          refine lv_istore (lv' := [(4, .int 0), (3, .int p0), (0, .ref h0), (1, .int p0), (2, .int p1)]) hx hb dX7_mayClassStand_36 hl (by decide) rfl (fun ls hl => ?_)
          refine lv_iload hx hb dX7_mayClassStand_38 (lv_at hl 0 rfl) ?_
          refine lv_sipush (v := 200) hx hb dX7_mayClassStand_40 (by decide) ?_
          refine lv_icmp_ge (tgt := 64) hx hb dX7_mayClassStand_43 (by decide) (fun c_5 => absurd c_5 (by decide)) (fun _ => ?_)
          refine lv_iload_n hx hb dX7_mayClassStand_46 rfl (lv_at hl 1 rfl) ?_
          refine lv_iload_n hx hb dX7_mayClassStand_47 rfl (lv_at hl 4 rfl) ?_
          refine lv_icmp_le (tgt := 64) hx hb dX7_mayClassStand_48 (by decide) (fun c_6 => ?_) (fun c_6 => ?_)
          · skip
            refine lv_iload_n hx hb dX7_mayClassStand_64 rfl (lv_at hl 1 rfl) ?_
            refine lv_iload_n hx hb dX7_mayClassStand_65 rfl (lv_at hl 4 rfl) ?_
            refine lv_icmp_ne (tgt := 73) hx hb dX7_mayClassStand_66 (by decide) (fun c_7 => ?_) (fun c_7 => ?_)
            · skip
              refine lv_iconst (v := 0) hx hb dX7_mayClassStand_73 (by decide) ?_
              exact W.zret (ty := .boolean) hx hb hr rfl (fun t ht hW => ⟨⟨_, (), rfl, by rw [f_X7_mayClassStand, if_neg c_1, if_pos c_2, if_neg c_3, if_pos c_4, if_pos c_6, if_neg c_7], trivial⟩, hS.F ht⟩) hS.2.2 dX7_mayClassStand_74
            · skip
              refine lv_iconst (v := 1) hx hb dX7_mayClassStand_69 (by decide) ?_
              refine lv_goto (tgt := 74) hx hb dX7_mayClassStand_70 (by decide) ?_
              exact W.zret (ty := .boolean) hx hb hr rfl (fun t ht hW => ⟨⟨_, (), rfl, by rw [f_X7_mayClassStand, if_neg c_1, if_pos c_2, if_neg c_3, if_pos c_4, if_pos c_6, if_pos c_7], trivial⟩, hS.F ht⟩) hS.2.2 dX7_mayClassStand_74
          · skip
            refine lv_aload_n hx hb dX7_mayClassStand_51 rfl (lv_at hl 2 rfl) ?_
            refine va_get (D := (dC, dI)) (ci := 7) (v := .ref h1) (C := RX7) (T := TX7) (N := 3) hx hb hts i_X7_mayClassStand_X7 hown hK hP 0 rfl rfl 0 (by decide) k_3 (fun _ h9 => h9) rfl dX7_mayClassStand_52 ?_
            refine lv_iload_n hx hb dX7_mayClassStand_55 rfl (lv_at hl 1 rfl) ?_
            refine va_iald hx hb hK hP 1 0 rfl rfl (x_in4n hc0 (by assumption)) dX7_mayClassStand_56 ?_
            refine lv_topi (fun z_8 ez_8 => ?_)
            obtain rfl : z_8 = 0 := ez_8
            refine lv_istore_n (lv' := [(3, .int 0), (4, .int 0), (0, .ref h0), (1, .int p0), (2, .int p1)]) hx hb dX7_mayClassStand_57 rfl hl (by decide) rfl (fun ls hl => ?_)
            refine lv_iinc (v := 1) (lv' := [(4, .int 1), (3, .int 0), (0, .ref h0), (1, .int p0), (2, .int p1)]) hx hb dX7_mayClassStand_58 hl (k := 1) rfl (by decide) (by decide) rfl (fun ls hl => ?_)
            refine lv_goto (tgt := 38) hx hb dX7_mayClassStand_61 (by decide) ?_
            refine lv_iload hx hb dX7_mayClassStand_38 (lv_at hl 0 rfl) ?_
            refine lv_sipush (v := 200) hx hb dX7_mayClassStand_40 (by decide) ?_
            refine lv_icmp_ge (tgt := 64) hx hb dX7_mayClassStand_43 (by decide) (fun c_9 => absurd c_9 (by decide)) (fun _ => ?_)
            refine lv_iload_n hx hb dX7_mayClassStand_46 rfl (lv_at hl 1 rfl) ?_
            refine lv_iload_n hx hb dX7_mayClassStand_47 rfl (lv_at hl 4 rfl) ?_
            refine lv_icmp_le (tgt := 64) hx hb dX7_mayClassStand_48 (by decide) (fun c_10 => ?_) (fun c_10 => ?_)
            · skip
              refine lv_iload_n hx hb dX7_mayClassStand_64 rfl (lv_at hl 1 rfl) ?_
              refine lv_iload_n hx hb dX7_mayClassStand_65 rfl (lv_at hl 4 rfl) ?_
              refine lv_icmp_ne (tgt := 73) hx hb dX7_mayClassStand_66 (by decide) (fun c_11 => ?_) (fun c_11 => ?_)
              · skip
                refine lv_iconst (v := 0) hx hb dX7_mayClassStand_73 (by decide) ?_
                exact W.zret (ty := .boolean) hx hb hr rfl (fun t ht hW => ⟨⟨_, (), rfl, by rw [f_X7_mayClassStand, if_neg c_1, if_pos c_2, if_neg c_3, if_pos c_4, if_neg c_6, if_neg c_11], trivial⟩, hS.F ht⟩) hS.2.2 dX7_mayClassStand_74
              · skip
                refine lv_iconst (v := 1) hx hb dX7_mayClassStand_69 (by decide) ?_
                refine lv_goto (tgt := 74) hx hb dX7_mayClassStand_70 (by decide) ?_
                exact W.zret (ty := .boolean) hx hb hr rfl (fun t ht hW => ⟨⟨_, (), rfl, by rw [f_X7_mayClassStand, if_neg c_1, if_pos c_2, if_neg c_3, if_pos c_4, if_neg c_6, if_pos c_11], trivial⟩, hS.F ht⟩) hS.2.2 dX7_mayClassStand_74
            · exact absurd hc1 c_10
        · skip
          refine lv_iconst (v := 1) hx hb dX7_mayClassStand_31 (by decide) ?_
          exact W.zret (ty := .boolean) hx hb hr rfl (fun t ht hW => ⟨⟨_, (), rfl, by rw [f_X7_mayClassStand, if_neg c_1, if_pos c_2, if_neg c_3, if_neg c_4], trivial⟩, hS.F ht⟩) hS.2.2 dX7_mayClassStand_32
    · skip
      refine lv_iconst (v := 0) hx hb dX7_mayClassStand_16 (by decide) ?_
      exact W.zret (ty := .boolean) hx hb hr rfl (fun t ht hW => ⟨⟨_, (), rfl, by rw [f_X7_mayClassStand, if_neg c_1, if_neg c_2], trivial⟩, hS.F ht⟩) hS.2.2 dX7_mayClassStand_17

def f_X7_mayStand (p0 : Int32) (p1 : Int32) : Int32 := if p0 = p1 then 1 else if (f_X7_isPrimitive p0) = (0 : Int32) then if (f_X7_isPrimitive p1) = (0 : Int32) then if ((f_X7_dimensionsOf p0) - (f_X7_dimensionsOf p1)) ≤ (0 : Int32) then if ((f_X7_dimensionsOf p0) - (f_X7_dimensionsOf p1)) = (0 : Int32) then if (f_X7_mayClassStand (p0 &&& 65535) (p1 &&& 65535)) = (0 : Int32) then 0 else 1 else 0 else if (p1 &&& 65535) = (0 : Int32) then 1 else if (p1 &&& 65535) = (2 : Int32) then 1 else if (p1 &&& 65535) = (3 : Int32) then 1 else 0 else 0 else 0
theorem b_X7_mayStand (p0 : Int32) (p1 : Int32) : x_nb (f_X7_mayStand p0 p1) := (x_ite rfl (x_ite (x_ite (x_ite (x_ite (x_ite rfl rfl) rfl) (x_ite rfl (x_ite rfl (x_ite rfl rfl)))) rfl) rfl))
set_option maxHeartbeats 4000000 in
set_option maxRecDepth 100000 in
theorem c_X7_mayStand (l : Launch) (dC : Nat → ClassId) (dI : Nat → Nat → Nat) (cyI cyZ cyJ : ClassId) (sz : Nat) (h0 : Nat) (h1 : Nat) (h2 : Nat) (p0 : Int32) (p1 : Int32) : Met l yX7_mayStand wsX7_mayStand ({ frames := 1, cells := 0, slots := 0, locals := 24 }) (va_Pc [.ref h0, .int p0, .int p1] (x_Pre (dC, dI) (x_T cyI cyZ cyJ) [(h0, .inr (7, [.ref h1, .ref h2, .int 4])), (h1, .inl (cyI, 200, .inl x_z0)), (h2, .inl (cyZ, 200, .inl x_face))] sz)) (va_Qi (fun (r : Int32) (_ : Unit) => r = f_X7_mayStand p0 p1) (fun _ _ => True) (x_new sz)) 0 0 (x_new sz) := by
  refine Met.ofW (cc := cX7_mayStand) (maxL := 5) (ret := (some .boolean)) (by decide) rfl ?_
  intro p e s m args below meth c s₁ B hml hv
  obtain ⟨rfl, hsz, hP, hK, hN⟩ := hv
  have hx := B.exec
  have hb := B.bytes
  have hr := B.returns
  have hts := atoms_spec (ws := wsX7_mayStand) B.pre
  have hown : s.vm.findClass RX7 = some m.cls := findClass_of_methodNamed B.named
  have hlocks := B.notSynchronized
  have k_1 := hts (.constant RX7 23 (65535)) (by decide +kernel)
  subst hsz
  have hA : ∀ q : Nat, s.heap.size ≤ q → x_new s.heap.size q := fun _ h => h
  have hS : va_S (x_new s.heap.size) s.heap s.heap [] := va_S.rf
  have hP : va_P (dC, dI) vwCl [(h0, .inr (7, [.ref h1, .ref h2, .int 4])), (h1, .inl (cyI, 200, .inl x_z0)), (h2, .inl (cyZ, 200, .inl x_face))] s.heap := hP
  have hl := lv_entry ([.ref h0, .int p0, .int p1]) (n := 5) (Nat.le_of_ble_eq_true rfl)
  rw [lg_entry_eq]
  generalize (lg_sl ([.ref h0, .int p0, .int p1]) ++ List.replicate (5 - (lg_sl ([.ref h0, .int p0, .int p1])).length) Slot.unset).toArray = ls at hl ⊢
  have hl : lv_has ls 5 [(0, .ref h0), (1, .int p0), (2, .int p1)] := hl
  obtain ⟨H, hH⟩ : ∃ z, z = s.heap := ⟨_, rfl⟩
  refine x_here hH ?_
  have hP : va_P (dC, dI) vwCl [(h0, .inr (7, [.ref h1, .ref h2, .int 4])), (h1, .inl (cyI, 200, .inl x_z0)), (h2, .inl (cyZ, 200, .inl x_face))] H := by rw [hH]; exact hP
  have hS : va_S (x_new s.heap.size) s.heap H [] := by rw [hH]; exact va_S.rf
  clear hH
  refine lv_iload_n hx hb dX7_mayStand_0 rfl (lv_at hl 1 rfl) ?_
  refine lv_iload_n hx hb dX7_mayStand_1 rfl (lv_at hl 2 rfl) ?_
  refine lv_icmp_ne (tgt := 7) hx hb dX7_mayStand_2 (by decide) (fun c_1 => ?_) (fun c_1 => ?_)
  · skip
    refine lv_iload_n hx hb dX7_mayStand_7 rfl (lv_at hl 1 rfl) ?_
    have hPc := hP.sub (ws' := []) [] rfl
    refine va_calli (va_runS (As := [.int p0]) (rest := []) ⟨hx, hb, hml, hown, hts⟩ (c_X7_isPrimitive l dC dI cyI cyZ cyJ H.size p0) (va_cwS 1 hts gX7_mayStand_X7_isPrimitive rfl rfl rfl (by decide +kernel) ⟨Nat.le_of_ble_eq_true rfl, Nat.le_of_ble_eq_true rfl⟩) (x_pS hN hK hPc) rfl rfl hl.1 rfl (lv_room (Nat.le_of_ble_eq_true rfl)) dX7_mayStand_8 ⟨Nat.le_of_ble_eq_true rfl, Nat.le_of_ble_eq_true rfl⟩) hS x_nA (x_nf hA hS) (fun r_8 u t H1 locs ht hvm hw hB hz1 hk1 hS => ?_)
    have hP := x_kp hP hk1
    clear ht hvm hB hz1 hk1 t u hPc
    generalize H1 = H at hP hS ⊢
    obtain rfl := hw
    refine lv_if_ne (tgt := 21) hx hb dX7_mayStand_11 (by decide) (fun c_2 => ?_) (fun c_2 => ?_)
    · skip
      refine lv_iconst (v := 0) hx hb dX7_mayStand_21 (by decide) ?_
      exact W.zret (ty := .boolean) hx hb hr rfl (fun t ht hW => ⟨⟨_, (), rfl, by rw [f_X7_mayStand, if_neg c_1, if_neg c_2], trivial⟩, hS.F ht⟩) hS.2.2 dX7_mayStand_22
    · skip
      refine lv_iload_n hx hb dX7_mayStand_14 rfl (lv_at hl 2 rfl) ?_
      have hPc := hP.sub (ws' := []) [] rfl
      refine va_calli (va_runS (As := [.int p1]) (rest := []) ⟨hx, hb, hml, hown, hts⟩ (c_X7_isPrimitive l dC dI cyI cyZ cyJ H.size p1) (va_cwS 1 hts gX7_mayStand_X7_isPrimitive rfl rfl rfl (by decide +kernel) ⟨Nat.le_of_ble_eq_true rfl, Nat.le_of_ble_eq_true rfl⟩) (x_pS hN hK hPc) rfl rfl hl.1 rfl (lv_room (Nat.le_of_ble_eq_true rfl)) dX7_mayStand_15 ⟨Nat.le_of_ble_eq_true rfl, Nat.le_of_ble_eq_true rfl⟩) hS x_nA (x_nf hA hS) (fun r_15 u t H1 locs ht hvm hw hB hz1 hk1 hS => ?_)
      have hP := x_kp hP hk1
      clear ht hvm hB hz1 hk1 t u hPc
      generalize H1 = H at hP hS ⊢
      obtain rfl := hw
      refine lv_if_eq (tgt := 23) hx hb dX7_mayStand_18 (by decide) (fun c_3 => ?_) (fun c_3 => ?_)
      · skip
        refine lv_iload_n hx hb dX7_mayStand_23 rfl (lv_at hl 2 rfl) ?_
        refine lv_ldc (v := 65535) hx hb hown k_1 dX7_mayStand_24 ?_
        refine lv_iand hx hb dX7_mayStand_26 ?_
        refine lv_istore_n (lv' := [(3, .int (p1 &&& 65535)), (0, .ref h0), (1, .int p0), (2, .int p1)]) hx hb dX7_mayStand_27 rfl hl (by decide) rfl (fun ls hl => ?_)
        refine lv_iload_n hx hb dX7_mayStand_28 rfl (lv_at hl 2 rfl) ?_
        have hPc := hP.sub (ws' := []) [] rfl
        refine va_calli (va_runS (As := [.int p0]) (rest := []) ⟨hx, hb, hml, hown, hts⟩ (c_X7_dimensionsOf l dC dI cyI cyZ cyJ H.size p0) (va_cwS 1 hts gX7_mayStand_X7_dimensionsOf rfl rfl rfl (by decide +kernel) ⟨Nat.le_of_ble_eq_true rfl, Nat.le_of_ble_eq_true rfl⟩) (x_pS hN hK hPc) rfl rfl hl.1 rfl (lv_room (Nat.le_of_ble_eq_true rfl)) dX7_mayStand_29 ⟨Nat.le_of_ble_eq_true rfl, Nat.le_of_ble_eq_true rfl⟩) hS x_nA (x_nf hA hS) (fun r_29 u t H1 locs ht hvm hw hB hz1 hk1 hS => ?_)
        have hP := x_kp hP hk1
        clear ht hvm hB hz1 hk1 t u hPc
        generalize H1 = H at hP hS ⊢
        obtain rfl := hw
        refine lv_iload_n hx hb dX7_mayStand_32 rfl (lv_at hl 3 rfl) ?_
        have hPc := hP.sub (ws' := []) [] rfl
        refine va_calli (va_runS (As := [.int p1]) (rest := [.int (f_X7_dimensionsOf p0)]) ⟨hx, hb, hml, hown, hts⟩ (c_X7_dimensionsOf l dC dI cyI cyZ cyJ H.size p1) (va_cwS 1 hts gX7_mayStand_X7_dimensionsOf rfl rfl rfl (by decide +kernel) ⟨Nat.le_of_ble_eq_true rfl, Nat.le_of_ble_eq_true rfl⟩) (x_pS hN hK hPc) rfl rfl hl.1 rfl (lv_room (Nat.le_of_ble_eq_true rfl)) dX7_mayStand_33 ⟨Nat.le_of_ble_eq_true rfl, Nat.le_of_ble_eq_true rfl⟩) hS x_nA (x_nf hA hS) (fun r_33 u t H1 locs ht hvm hw hB hz1 hk1 hS => ?_)
        have hP := x_kp hP hk1
        clear ht hvm hB hz1 hk1 t u hPc
        generalize H1 = H at hP hS ⊢
        obtain rfl := hw
        refine lv_isub hx hb dX7_mayStand_36 ?_
        refine lv_istore (lv' := [(4, .int ((f_X7_dimensionsOf p0) - (f_X7_dimensionsOf p1))), (3, .int (p1 &&& 65535)), (0, .ref h0), (1, .int p0), (2, .int p1)]) hx hb dX7_mayStand_37 hl (by decide) rfl (fun ls hl => ?_)
        refine lv_iload hx hb dX7_mayStand_39 (lv_at hl 0 rfl) ?_
        refine lv_if_le (tgt := 64) hx hb dX7_mayStand_41 (by decide) (fun c_4 => ?_) (fun c_4 => ?_)
        · skip
          refine lv_iload hx hb dX7_mayStand_64 (lv_at hl 0 rfl) ?_
          refine lv_if_ne (tgt := 85) hx hb dX7_mayStand_66 (by decide) (fun c_5 => ?_) (fun c_5 => ?_)
          · skip
            refine lv_iconst (v := 0) hx hb dX7_mayStand_85 (by decide) ?_
            exact W.zret (ty := .boolean) hx hb hr rfl (fun t ht hW => ⟨⟨_, (), rfl, by rw [f_X7_mayStand, if_neg c_1, if_pos c_2, if_pos c_3, if_pos c_4, if_neg c_5], trivial⟩, hS.F ht⟩) hS.2.2 dX7_mayStand_86
          · skip
            refine lv_aload_n hx hb dX7_mayStand_69 rfl (lv_at hl 2 rfl) ?_
            refine lv_iload_n hx hb dX7_mayStand_70 rfl (lv_at hl 3 rfl) ?_
            refine lv_ldc (v := 65535) hx hb hown k_1 dX7_mayStand_71 ?_
            refine lv_iand hx hb dX7_mayStand_73 ?_
            refine lv_iload_n hx hb dX7_mayStand_74 rfl (lv_at hl 1 rfl) ?_
            have hPc := hP.sub (ws' := [(h0, .inr (7, [.ref h1, .ref h2, .int 4])), (h1, .inl (cyI, 200, .inl x_z0)), (h2, .inl (cyZ, 200, .inl x_face))]) [0, 1, 2] rfl
            refine va_calli (va_runV (As := [.int (p0 &&& 65535), .int (p1 &&& 65535)]) (rest := []) ⟨hx, hb, hml, hown, hts⟩ (c_X7_mayClassStand l dC dI cyI cyZ cyJ H.size h0 h1 h2 (p0 &&& 65535) (p1 &&& 65535) (x_mpos _) (x_mpos _)) (cwV 2 hts gX7_mayStand_X7_mayClassStand rfl rfl rfl (by decide +kernel) ⟨Nat.le_of_ble_eq_true rfl, Nat.le_of_ble_eq_true rfl⟩) (x_pV hN hK hPc (ci := 7) (q0 := 0) rfl rfl) rfl rfl hl.1 rfl (lv_room (Nat.le_of_ble_eq_true rfl)) dX7_mayStand_75 ⟨Nat.le_of_ble_eq_true rfl, Nat.le_of_ble_eq_true rfl⟩) hS x_nA (x_nf hA hS) (fun r_75 u t H1 locs ht hvm hw hB hz1 hk1 hS => ?_)
            have hP := x_kp hP hk1
            clear ht hvm hB hz1 hk1 t u hPc
            generalize H1 = H at hP hS ⊢
            obtain rfl := hw
            refine lv_if_eq (tgt := 85) hx hb dX7_mayStand_78 (by decide) (fun c_6 => ?_) (fun c_6 => ?_)
            · skip
              refine lv_iconst (v := 0) hx hb dX7_mayStand_85 (by decide) ?_
              exact W.zret (ty := .boolean) hx hb hr rfl (fun t ht hW => ⟨⟨_, (), rfl, by rw [f_X7_mayStand, if_neg c_1, if_pos c_2, if_pos c_3, if_pos c_4, if_pos c_5, if_pos c_6], trivial⟩, hS.F ht⟩) hS.2.2 dX7_mayStand_86
            · skip
              refine lv_iconst (v := 1) hx hb dX7_mayStand_81 (by decide) ?_
              refine lv_goto (tgt := 86) hx hb dX7_mayStand_82 (by decide) ?_
              exact W.zret (ty := .boolean) hx hb hr rfl (fun t ht hW => ⟨⟨_, (), rfl, by rw [f_X7_mayStand, if_neg c_1, if_pos c_2, if_pos c_3, if_pos c_4, if_pos c_5, if_neg c_6], trivial⟩, hS.F ht⟩) hS.2.2 dX7_mayStand_86
        · skip
          refine lv_iload_n hx hb dX7_mayStand_44 rfl (lv_at hl 1 rfl) ?_
          refine lv_if_eq (tgt := 58) hx hb dX7_mayStand_45 (by decide) (fun c_7 => ?_) (fun c_7 => ?_)
          · skip
            refine lv_iconst (v := 1) hx hb dX7_mayStand_58 (by decide) ?_
            refine lv_goto (tgt := 63) hx hb dX7_mayStand_59 (by decide) ?_
            exact W.zret (ty := .boolean) hx hb hr rfl (fun t ht hW => ⟨⟨_, (), rfl, by rw [f_X7_mayStand, if_neg c_1, if_pos c_2, if_pos c_3, if_neg c_4, if_pos c_7], trivial⟩, hS.F ht⟩) hS.2.2 dX7_mayStand_63
          · skip
            refine lv_iload_n hx hb dX7_mayStand_48 rfl (lv_at hl 1 rfl) ?_
            refine lv_iconst (v := 2) hx hb dX7_mayStand_49 (by decide) ?_
            refine lv_icmp_eq (tgt := 58) hx hb dX7_mayStand_50 (by decide) (fun c_8 => ?_) (fun c_8 => ?_)
            · skip
              refine lv_iconst (v := 1) hx hb dX7_mayStand_58 (by decide) ?_
              refine lv_goto (tgt := 63) hx hb dX7_mayStand_59 (by decide) ?_
              exact W.zret (ty := .boolean) hx hb hr rfl (fun t ht hW => ⟨⟨_, (), rfl, by rw [f_X7_mayStand, if_neg c_1, if_pos c_2, if_pos c_3, if_neg c_4, if_neg c_7, if_pos c_8], trivial⟩, hS.F ht⟩) hS.2.2 dX7_mayStand_63
            · skip
              refine lv_iload_n hx hb dX7_mayStand_53 rfl (lv_at hl 1 rfl) ?_
              refine lv_iconst (v := 3) hx hb dX7_mayStand_54 (by decide) ?_
              refine lv_icmp_ne (tgt := 62) hx hb dX7_mayStand_55 (by decide) (fun c_9 => ?_) (fun c_9 => ?_)
              · skip
                refine lv_iconst (v := 0) hx hb dX7_mayStand_62 (by decide) ?_
                exact W.zret (ty := .boolean) hx hb hr rfl (fun t ht hW => ⟨⟨_, (), rfl, by rw [f_X7_mayStand, if_neg c_1, if_pos c_2, if_pos c_3, if_neg c_4, if_neg c_7, if_neg c_8, if_neg c_9], trivial⟩, hS.F ht⟩) hS.2.2 dX7_mayStand_63
              · skip
                refine lv_iconst (v := 1) hx hb dX7_mayStand_58 (by decide) ?_
                refine lv_goto (tgt := 63) hx hb dX7_mayStand_59 (by decide) ?_
                exact W.zret (ty := .boolean) hx hb hr rfl (fun t ht hW => ⟨⟨_, (), rfl, by rw [f_X7_mayStand, if_neg c_1, if_pos c_2, if_pos c_3, if_neg c_4, if_neg c_7, if_neg c_8, if_pos c_9], trivial⟩, hS.F ht⟩) hS.2.2 dX7_mayStand_63
      · skip
        refine lv_iconst (v := 0) hx hb dX7_mayStand_21 (by decide) ?_
        exact W.zret (ty := .boolean) hx hb hr rfl (fun t ht hW => ⟨⟨_, (), rfl, by rw [f_X7_mayStand, if_neg c_1, if_pos c_2, if_neg c_3], trivial⟩, hS.F ht⟩) hS.2.2 dX7_mayStand_22
  · skip
    refine lv_iconst (v := 1) hx hb dX7_mayStand_5 (by decide) ?_
    exact W.zret (ty := .boolean) hx hb hr rfl (fun t ht hW => ⟨⟨_, (), rfl, by rw [f_X7_mayStand, if_pos c_1], trivial⟩, hS.F ht⟩) hS.2.2 dX7_mayStand_6

def f_X7_sharedOf (p0 : Int32) (p1 : Int32) : Int32 := if p0 = p1 then p0 else if (f_X7_dimensionsOf p0) = (f_X7_dimensionsOf p1) then if (4 : Int32) ≤ (p0 &&& 65535) then if (65528 : Int32) ≤ (p0 &&& 65535) then if (65528 : Int32) ≤ (p1 &&& 65535) then if ((f_X7_dimensionsOf p1) - (1 : Int32)) ≤ ((f_X7_dimensionsOf p0) - (1 : Int32)) then (((f_X7_dimensionsOf p1) - (1 : Int32)) <<< (16 &&& 31)) else (((f_X7_dimensionsOf p0) - (1 : Int32)) <<< (16 &&& 31)) else if (f_X7_dimensionsOf p1) ≤ ((f_X7_dimensionsOf p0) - (1 : Int32)) then ((f_X7_dimensionsOf p1) <<< (16 &&& 31)) else (((f_X7_dimensionsOf p0) - (1 : Int32)) <<< (16 &&& 31)) else if (65528 : Int32) ≤ (p1 &&& 65535) then if ((f_X7_dimensionsOf p1) - (1 : Int32)) ≤ (f_X7_dimensionsOf p0) then (((f_X7_dimensionsOf p1) - (1 : Int32)) <<< (16 &&& 31)) else ((f_X7_dimensionsOf p0) <<< (16 &&& 31)) else if (f_X7_dimensionsOf p1) ≤ (f_X7_dimensionsOf p0) then ((f_X7_dimensionsOf p1) <<< (16 &&& 31)) else ((f_X7_dimensionsOf p0) <<< (16 &&& 31)) else if (p1 &&& 65535) < (4 : Int32) then if (p0 &&& 65535) = (p1 &&& 65535) then (((f_X7_dimensionsOf p0) <<< (16 &&& 31)) + (p0 &&& 65535)) else if (p0 &&& 65535) ≤ (p1 &&& 65535) then if (p0 &&& 65535) = (0 : Int32) then (((f_X7_dimensionsOf p0) <<< (16 &&& 31)) + (p0 &&& 65535)) else (((f_X7_dimensionsOf p0) <<< (16 &&& 31)) + (0 : Int32)) else if (0 : Int32) = (p1 &&& 65535) then (((f_X7_dimensionsOf p0) <<< (16 &&& 31)) + (0 : Int32)) else (((f_X7_dimensionsOf p0) <<< (16 &&& 31)) + (0 : Int32)) else if (65528 : Int32) ≤ (p0 &&& 65535) then if (65528 : Int32) ≤ (p1 &&& 65535) then if ((f_X7_dimensionsOf p1) - (1 : Int32)) ≤ ((f_X7_dimensionsOf p0) - (1 : Int32)) then (((f_X7_dimensionsOf p1) - (1 : Int32)) <<< (16 &&& 31)) else (((f_X7_dimensionsOf p0) - (1 : Int32)) <<< (16 &&& 31)) else if (f_X7_dimensionsOf p1) ≤ ((f_X7_dimensionsOf p0) - (1 : Int32)) then ((f_X7_dimensionsOf p1) <<< (16 &&& 31)) else (((f_X7_dimensionsOf p0) - (1 : Int32)) <<< (16 &&& 31)) else if (65528 : Int32) ≤ (p1 &&& 65535) then if ((f_X7_dimensionsOf p1) - (1 : Int32)) ≤ (f_X7_dimensionsOf p0) then (((f_X7_dimensionsOf p1) - (1 : Int32)) <<< (16 &&& 31)) else ((f_X7_dimensionsOf p0) <<< (16 &&& 31)) else if (f_X7_dimensionsOf p1) ≤ (f_X7_dimensionsOf p0) then ((f_X7_dimensionsOf p1) <<< (16 &&& 31)) else ((f_X7_dimensionsOf p0) <<< (16 &&& 31)) else if (65528 : Int32) ≤ (p0 &&& 65535) then if (65528 : Int32) ≤ (p1 &&& 65535) then if ((f_X7_dimensionsOf p1) - (1 : Int32)) ≤ ((f_X7_dimensionsOf p0) - (1 : Int32)) then (((f_X7_dimensionsOf p1) - (1 : Int32)) <<< (16 &&& 31)) else (((f_X7_dimensionsOf p0) - (1 : Int32)) <<< (16 &&& 31)) else if (f_X7_dimensionsOf p1) ≤ ((f_X7_dimensionsOf p0) - (1 : Int32)) then ((f_X7_dimensionsOf p1) <<< (16 &&& 31)) else (((f_X7_dimensionsOf p0) - (1 : Int32)) <<< (16 &&& 31)) else if (65528 : Int32) ≤ (p1 &&& 65535) then if ((f_X7_dimensionsOf p1) - (1 : Int32)) ≤ (f_X7_dimensionsOf p0) then (((f_X7_dimensionsOf p1) - (1 : Int32)) <<< (16 &&& 31)) else ((f_X7_dimensionsOf p0) <<< (16 &&& 31)) else if (f_X7_dimensionsOf p1) ≤ (f_X7_dimensionsOf p0) then ((f_X7_dimensionsOf p1) <<< (16 &&& 31)) else ((f_X7_dimensionsOf p0) <<< (16 &&& 31))
theorem i_X7_sharedOf_X7 : ∀ w ∈ wsX70, w ∈ wsX7_sharedOf := by decide +kernel
set_option maxHeartbeats 4000000 in
set_option maxRecDepth 100000 in
theorem c_X7_sharedOf (l : Launch) (dC : Nat → ClassId) (dI : Nat → Nat → Nat) (cyI cyZ cyJ : ClassId) (sz : Nat) (h0 : Nat) (h1 : Nat) (h2 : Nat) (p0 : Int32) (p1 : Int32) : Met l yX7_sharedOf wsX7_sharedOf ({ frames := 1, cells := 0, slots := 0, locals := 20 }) (va_Pc [.ref h0, .int p0, .int p1] (x_Pre (dC, dI) (x_T cyI cyZ cyJ) [(h0, .inr (7, [.ref h1, .ref h2, .int 4])), (h1, .inl (cyI, 200, .inl x_z0))] sz)) (va_Qi (fun (r : Int32) (_ : Unit) => r = f_X7_sharedOf p0 p1) (fun _ _ => True) (x_new sz)) 0 0 (x_new sz) := by
  refine Met.ofW (cc := cX7_sharedOf) (maxL := 9) (ret := (some .int)) (by decide) rfl ?_
  intro p e s m args below meth c s₁ B hml hv
  obtain ⟨rfl, hsz, hP, hK, hN⟩ := hv
  have hx := B.exec
  have hb := B.bytes
  have hr := B.returns
  have hts := atoms_spec (ws := wsX7_sharedOf) B.pre
  have hown : s.vm.findClass RX7 = some m.cls := findClass_of_methodNamed B.named
  have hlocks := B.notSynchronized
  have k_1 := hts (.constant RX7 23 (65535)) (by decide +kernel)
  have k_2 := hts (.constant RX7 28 (65528)) (by decide +kernel)
  have k_3 := hts (.fieldLink RX7 19 "FlowJudge$Types" "count" "I") (by decide +kernel)
  have k_4 := hts (.fieldLink RX7 9 "FlowJudge$Types" "above" "[I") (by decide +kernel)
  subst hsz
  have hA : ∀ q : Nat, s.heap.size ≤ q → x_new s.heap.size q := fun _ h => h
  have hS : va_S (x_new s.heap.size) s.heap s.heap [] := va_S.rf
  have hP : va_P (dC, dI) vwCl [(h0, .inr (7, [.ref h1, .ref h2, .int 4])), (h1, .inl (cyI, 200, .inl x_z0))] s.heap := hP
  have hl := lv_entry ([.ref h0, .int p0, .int p1]) (n := 9) (Nat.le_of_ble_eq_true rfl)
  rw [lg_entry_eq]
  generalize (lg_sl ([.ref h0, .int p0, .int p1]) ++ List.replicate (9 - (lg_sl ([.ref h0, .int p0, .int p1])).length) Slot.unset).toArray = ls at hl ⊢
  have hl : lv_has ls 9 [(0, .ref h0), (1, .int p0), (2, .int p1)] := hl
  obtain ⟨H, hH⟩ : ∃ z, z = s.heap := ⟨_, rfl⟩
  refine x_here hH ?_
  have hP : va_P (dC, dI) vwCl [(h0, .inr (7, [.ref h1, .ref h2, .int 4])), (h1, .inl (cyI, 200, .inl x_z0))] H := by rw [hH]; exact hP
  have hS : va_S (x_new s.heap.size) s.heap H [] := by rw [hH]; exact va_S.rf
  clear hH
  refine lv_iload_n hx hb dX7_sharedOf_0 rfl (lv_at hl 1 rfl) ?_
  refine lv_iload_n hx hb dX7_sharedOf_1 rfl (lv_at hl 2 rfl) ?_
  refine lv_icmp_ne (tgt := 7) hx hb dX7_sharedOf_2 (by decide) (fun c_1 => ?_) (fun c_1 => ?_)
  · skip
    refine lv_iload_n hx hb dX7_sharedOf_7 rfl (lv_at hl 1 rfl) ?_
    refine lv_ldc (v := 65535) hx hb hown k_1 dX7_sharedOf_8 ?_
    refine lv_iand hx hb dX7_sharedOf_10 ?_
    refine lv_istore_n (lv' := [(3, .int (p0 &&& 65535)), (0, .ref h0), (1, .int p0), (2, .int p1)]) hx hb dX7_sharedOf_11 rfl hl (by decide) rfl (fun ls hl => ?_)
    refine lv_iload_n hx hb dX7_sharedOf_12 rfl (lv_at hl 3 rfl) ?_
    refine lv_ldc (v := 65535) hx hb hown k_1 dX7_sharedOf_13 ?_
    refine lv_iand hx hb dX7_sharedOf_15 ?_
    refine lv_istore (lv' := [(4, .int (p1 &&& 65535)), (3, .int (p0 &&& 65535)), (0, .ref h0), (1, .int p0), (2, .int p1)]) hx hb dX7_sharedOf_16 hl (by decide) rfl (fun ls hl => ?_)
    refine lv_iload_n hx hb dX7_sharedOf_18 rfl (lv_at hl 3 rfl) ?_
    have hPc := hP.sub (ws' := []) [] rfl
    refine va_calli (va_runS (As := [.int p0]) (rest := []) ⟨hx, hb, hml, hown, hts⟩ (c_X7_dimensionsOf l dC dI cyI cyZ cyJ H.size p0) (va_cwS 1 hts gX7_sharedOf_X7_dimensionsOf rfl rfl rfl (by decide +kernel) ⟨Nat.le_of_ble_eq_true rfl, Nat.le_of_ble_eq_true rfl⟩) (x_pS hN hK hPc) rfl rfl hl.1 rfl (lv_room (Nat.le_of_ble_eq_true rfl)) dX7_sharedOf_19 ⟨Nat.le_of_ble_eq_true rfl, Nat.le_of_ble_eq_true rfl⟩) hS x_nA (x_nf hA hS) (fun r_19 u t H1 locs ht hvm hw hB hz1 hk1 hS => ?_)
    have hP := x_kp hP hk1
    clear ht hvm hB hz1 hk1 t u hPc
    generalize H1 = H at hP hS ⊢
    obtain rfl := hw
    refine lv_istore (lv' := [(5, .int (f_X7_dimensionsOf p0)), (4, .int (p1 &&& 65535)), (3, .int (p0 &&& 65535)), (0, .ref h0), (1, .int p0), (2, .int p1)]) hx hb dX7_sharedOf_22 hl (by decide) rfl (fun ls hl => ?_)
    refine lv_iload_n hx hb dX7_sharedOf_24 rfl (lv_at hl 5 rfl) ?_
    have hPc := hP.sub (ws' := []) [] rfl
    refine va_calli (va_runS (As := [.int p1]) (rest := []) ⟨hx, hb, hml, hown, hts⟩ (c_X7_dimensionsOf l dC dI cyI cyZ cyJ H.size p1) (va_cwS 1 hts gX7_sharedOf_X7_dimensionsOf rfl rfl rfl (by decide +kernel) ⟨Nat.le_of_ble_eq_true rfl, Nat.le_of_ble_eq_true rfl⟩) (x_pS hN hK hPc) rfl rfl hl.1 rfl (lv_room (Nat.le_of_ble_eq_true rfl)) dX7_sharedOf_25 ⟨Nat.le_of_ble_eq_true rfl, Nat.le_of_ble_eq_true rfl⟩) hS x_nA (x_nf hA hS) (fun r_25 u t H1 locs ht hvm hw hB hz1 hk1 hS => ?_)
    have hP := x_kp hP hk1
    clear ht hvm hB hz1 hk1 t u hPc
    generalize H1 = H at hP hS ⊢
    obtain rfl := hw
    refine lv_istore (lv' := [(6, .int (f_X7_dimensionsOf p1)), (5, .int (f_X7_dimensionsOf p0)), (4, .int (p1 &&& 65535)), (3, .int (p0 &&& 65535)), (0, .ref h0), (1, .int p0), (2, .int p1)]) hx hb dX7_sharedOf_28 hl (by decide) rfl (fun ls hl => ?_)
    refine lv_iload hx hb dX7_sharedOf_30 (lv_at hl 1 rfl) ?_
    refine lv_iload hx hb dX7_sharedOf_32 (lv_at hl 0 rfl) ?_
    refine lv_icmp_ne (tgt := 54) hx hb dX7_sharedOf_34 (by decide) (fun c_2 => ?_) (fun c_2 => ?_)
    · skip
      refine lv_iload_n hx hb dX7_sharedOf_54 rfl (lv_at hl 3 rfl) ?_
      refine lv_ldc (v := 65528) hx hb hown k_2 dX7_sharedOf_55 ?_
      refine lv_icmp_ge (tgt := 65) hx hb dX7_sharedOf_57 (by decide) (fun c_3 => ?_) (fun c_3 => ?_)
      · skip
        refine lv_iload hx hb dX7_sharedOf_65 (lv_at hl 1 rfl) ?_
        refine lv_iconst (v := 1) hx hb dX7_sharedOf_67 (by decide) ?_
        refine lv_isub hx hb dX7_sharedOf_68 ?_
        refine lv_istore (lv' := [(7, .int ((f_X7_dimensionsOf p0) - (1 : Int32))), (6, .int (f_X7_dimensionsOf p1)), (5, .int (f_X7_dimensionsOf p0)), (4, .int (p1 &&& 65535)), (3, .int (p0 &&& 65535)), (0, .ref h0), (1, .int p0), (2, .int p1)]) hx hb dX7_sharedOf_69 hl (by decide) rfl (fun ls hl => ?_)
        refine lv_iload hx hb dX7_sharedOf_71 (lv_at hl 3 rfl) ?_
        refine lv_ldc (v := 65528) hx hb hown k_2 dX7_sharedOf_73 ?_
        refine lv_icmp_ge (tgt := 83) hx hb dX7_sharedOf_75 (by decide) (fun c_4 => ?_) (fun c_4 => ?_)
        · skip
          refine lv_iload hx hb dX7_sharedOf_83 (lv_at hl 1 rfl) ?_
          refine lv_iconst (v := 1) hx hb dX7_sharedOf_85 (by decide) ?_
          refine lv_isub hx hb dX7_sharedOf_86 ?_
          refine lv_istore (lv' := [(8, .int ((f_X7_dimensionsOf p1) - (1 : Int32))), (7, .int ((f_X7_dimensionsOf p0) - (1 : Int32))), (6, .int (f_X7_dimensionsOf p1)), (5, .int (f_X7_dimensionsOf p0)), (4, .int (p1 &&& 65535)), (3, .int (p0 &&& 65535)), (0, .ref h0), (1, .int p0), (2, .int p1)]) hx hb dX7_sharedOf_87 hl (by decide) rfl (fun ls hl => ?_)
          refine lv_iload hx hb dX7_sharedOf_89 (lv_at hl 1 rfl) ?_
          refine lv_iload hx hb dX7_sharedOf_91 (lv_at hl 0 rfl) ?_
          refine lv_icmp_ge (tgt := 101) hx hb dX7_sharedOf_93 (by decide) (fun c_5 => ?_) (fun c_5 => ?_)
          · skip
            refine lv_iload hx hb dX7_sharedOf_101 (lv_at hl 0 rfl) ?_
            refine lv_bipush (v := 16) hx hb dX7_sharedOf_103 (by decide) ?_
            refine lv_ishl hx hb dX7_sharedOf_105 ?_
            exact W.iret hx hb hr (fun t ht hW => ⟨⟨_, (), rfl, by rw [f_X7_sharedOf, if_neg c_1, if_neg c_2, if_pos c_3, if_pos c_4, if_pos c_5], trivial⟩, hS.F ht⟩) hS.2.2 dX7_sharedOf_106
          · skip
            refine lv_iload hx hb dX7_sharedOf_96 (lv_at hl 1 rfl) ?_
            refine lv_goto (tgt := 103) hx hb dX7_sharedOf_98 (by decide) ?_
            refine lv_bipush (v := 16) hx hb dX7_sharedOf_103 (by decide) ?_
            refine lv_ishl hx hb dX7_sharedOf_105 ?_
            exact W.iret hx hb hr (fun t ht hW => ⟨⟨_, (), rfl, by rw [f_X7_sharedOf, if_neg c_1, if_neg c_2, if_pos c_3, if_pos c_4, if_neg c_5], trivial⟩, hS.F ht⟩) hS.2.2 dX7_sharedOf_106
        · skip
          refine lv_iload hx hb dX7_sharedOf_78 (lv_at hl 1 rfl) ?_
          refine lv_goto (tgt := 87) hx hb dX7_sharedOf_80 (by decide) ?_
          refine lv_istore (lv' := [(8, .int (f_X7_dimensionsOf p1)), (7, .int ((f_X7_dimensionsOf p0) - (1 : Int32))), (6, .int (f_X7_dimensionsOf p1)), (5, .int (f_X7_dimensionsOf p0)), (4, .int (p1 &&& 65535)), (3, .int (p0 &&& 65535)), (0, .ref h0), (1, .int p0), (2, .int p1)]) hx hb dX7_sharedOf_87 hl (by decide) rfl (fun ls hl => ?_)
          refine lv_iload hx hb dX7_sharedOf_89 (lv_at hl 1 rfl) ?_
          refine lv_iload hx hb dX7_sharedOf_91 (lv_at hl 0 rfl) ?_
          refine lv_icmp_ge (tgt := 101) hx hb dX7_sharedOf_93 (by decide) (fun c_6 => ?_) (fun c_6 => ?_)
          · skip
            refine lv_iload hx hb dX7_sharedOf_101 (lv_at hl 0 rfl) ?_
            refine lv_bipush (v := 16) hx hb dX7_sharedOf_103 (by decide) ?_
            refine lv_ishl hx hb dX7_sharedOf_105 ?_
            exact W.iret hx hb hr (fun t ht hW => ⟨⟨_, (), rfl, by rw [f_X7_sharedOf, if_neg c_1, if_neg c_2, if_pos c_3, if_neg c_4, if_pos c_6], trivial⟩, hS.F ht⟩) hS.2.2 dX7_sharedOf_106
          · skip
            refine lv_iload hx hb dX7_sharedOf_96 (lv_at hl 1 rfl) ?_
            refine lv_goto (tgt := 103) hx hb dX7_sharedOf_98 (by decide) ?_
            refine lv_bipush (v := 16) hx hb dX7_sharedOf_103 (by decide) ?_
            refine lv_ishl hx hb dX7_sharedOf_105 ?_
            exact W.iret hx hb hr (fun t ht hW => ⟨⟨_, (), rfl, by rw [f_X7_sharedOf, if_neg c_1, if_neg c_2, if_pos c_3, if_neg c_4, if_neg c_6], trivial⟩, hS.F ht⟩) hS.2.2 dX7_sharedOf_106
      · skip
        refine lv_iload hx hb dX7_sharedOf_60 (lv_at hl 1 rfl) ?_
        refine lv_goto (tgt := 69) hx hb dX7_sharedOf_62 (by decide) ?_
        refine lv_istore (lv' := [(7, .int (f_X7_dimensionsOf p0)), (6, .int (f_X7_dimensionsOf p1)), (5, .int (f_X7_dimensionsOf p0)), (4, .int (p1 &&& 65535)), (3, .int (p0 &&& 65535)), (0, .ref h0), (1, .int p0), (2, .int p1)]) hx hb dX7_sharedOf_69 hl (by decide) rfl (fun ls hl => ?_)
        refine lv_iload hx hb dX7_sharedOf_71 (lv_at hl 3 rfl) ?_
        refine lv_ldc (v := 65528) hx hb hown k_2 dX7_sharedOf_73 ?_
        refine lv_icmp_ge (tgt := 83) hx hb dX7_sharedOf_75 (by decide) (fun c_7 => ?_) (fun c_7 => ?_)
        · skip
          refine lv_iload hx hb dX7_sharedOf_83 (lv_at hl 1 rfl) ?_
          refine lv_iconst (v := 1) hx hb dX7_sharedOf_85 (by decide) ?_
          refine lv_isub hx hb dX7_sharedOf_86 ?_
          refine lv_istore (lv' := [(8, .int ((f_X7_dimensionsOf p1) - (1 : Int32))), (7, .int (f_X7_dimensionsOf p0)), (6, .int (f_X7_dimensionsOf p1)), (5, .int (f_X7_dimensionsOf p0)), (4, .int (p1 &&& 65535)), (3, .int (p0 &&& 65535)), (0, .ref h0), (1, .int p0), (2, .int p1)]) hx hb dX7_sharedOf_87 hl (by decide) rfl (fun ls hl => ?_)
          refine lv_iload hx hb dX7_sharedOf_89 (lv_at hl 1 rfl) ?_
          refine lv_iload hx hb dX7_sharedOf_91 (lv_at hl 0 rfl) ?_
          refine lv_icmp_ge (tgt := 101) hx hb dX7_sharedOf_93 (by decide) (fun c_8 => ?_) (fun c_8 => ?_)
          · skip
            refine lv_iload hx hb dX7_sharedOf_101 (lv_at hl 0 rfl) ?_
            refine lv_bipush (v := 16) hx hb dX7_sharedOf_103 (by decide) ?_
            refine lv_ishl hx hb dX7_sharedOf_105 ?_
            exact W.iret hx hb hr (fun t ht hW => ⟨⟨_, (), rfl, by rw [f_X7_sharedOf, if_neg c_1, if_neg c_2, if_neg c_3, if_pos c_7, if_pos c_8], trivial⟩, hS.F ht⟩) hS.2.2 dX7_sharedOf_106
          · skip
            refine lv_iload hx hb dX7_sharedOf_96 (lv_at hl 1 rfl) ?_
            refine lv_goto (tgt := 103) hx hb dX7_sharedOf_98 (by decide) ?_
            refine lv_bipush (v := 16) hx hb dX7_sharedOf_103 (by decide) ?_
            refine lv_ishl hx hb dX7_sharedOf_105 ?_
            exact W.iret hx hb hr (fun t ht hW => ⟨⟨_, (), rfl, by rw [f_X7_sharedOf, if_neg c_1, if_neg c_2, if_neg c_3, if_pos c_7, if_neg c_8], trivial⟩, hS.F ht⟩) hS.2.2 dX7_sharedOf_106
        · skip
          refine lv_iload hx hb dX7_sharedOf_78 (lv_at hl 1 rfl) ?_
          refine lv_goto (tgt := 87) hx hb dX7_sharedOf_80 (by decide) ?_
          refine lv_istore (lv' := [(8, .int (f_X7_dimensionsOf p1)), (7, .int (f_X7_dimensionsOf p0)), (6, .int (f_X7_dimensionsOf p1)), (5, .int (f_X7_dimensionsOf p0)), (4, .int (p1 &&& 65535)), (3, .int (p0 &&& 65535)), (0, .ref h0), (1, .int p0), (2, .int p1)]) hx hb dX7_sharedOf_87 hl (by decide) rfl (fun ls hl => ?_)
          refine lv_iload hx hb dX7_sharedOf_89 (lv_at hl 1 rfl) ?_
          refine lv_iload hx hb dX7_sharedOf_91 (lv_at hl 0 rfl) ?_
          refine lv_icmp_ge (tgt := 101) hx hb dX7_sharedOf_93 (by decide) (fun c_9 => ?_) (fun c_9 => ?_)
          · skip
            refine lv_iload hx hb dX7_sharedOf_101 (lv_at hl 0 rfl) ?_
            refine lv_bipush (v := 16) hx hb dX7_sharedOf_103 (by decide) ?_
            refine lv_ishl hx hb dX7_sharedOf_105 ?_
            exact W.iret hx hb hr (fun t ht hW => ⟨⟨_, (), rfl, by rw [f_X7_sharedOf, if_neg c_1, if_neg c_2, if_neg c_3, if_neg c_7, if_pos c_9], trivial⟩, hS.F ht⟩) hS.2.2 dX7_sharedOf_106
          · skip
            refine lv_iload hx hb dX7_sharedOf_96 (lv_at hl 1 rfl) ?_
            refine lv_goto (tgt := 103) hx hb dX7_sharedOf_98 (by decide) ?_
            refine lv_bipush (v := 16) hx hb dX7_sharedOf_103 (by decide) ?_
            refine lv_ishl hx hb dX7_sharedOf_105 ?_
            exact W.iret hx hb hr (fun t ht hW => ⟨⟨_, (), rfl, by rw [f_X7_sharedOf, if_neg c_1, if_neg c_2, if_neg c_3, if_neg c_7, if_neg c_9], trivial⟩, hS.F ht⟩) hS.2.2 dX7_sharedOf_106
    · skip
      refine lv_iload_n hx hb dX7_sharedOf_37 rfl (lv_at hl 3 rfl) ?_
      refine lv_aload_n hx hb dX7_sharedOf_38 rfl (lv_at hl 4 rfl) ?_
      refine va_get (D := (dC, dI)) (ci := 7) (v := .int 4) (C := RX7) (T := TX7) (N := 3) hx hb hts i_X7_sharedOf_X7 hown hK hP 0 rfl rfl 2 (by decide) k_3 (fun _ h9 => h9) rfl dX7_sharedOf_39 ?_
      refine lv_icmp_ge (tgt := 54) hx hb dX7_sharedOf_42 (by decide) (fun c_10 => ?_) (fun c_10 => ?_)
      · skip
        refine lv_iload_n hx hb dX7_sharedOf_54 rfl (lv_at hl 3 rfl) ?_
        refine lv_ldc (v := 65528) hx hb hown k_2 dX7_sharedOf_55 ?_
        refine lv_icmp_ge (tgt := 65) hx hb dX7_sharedOf_57 (by decide) (fun c_11 => ?_) (fun c_11 => ?_)
        · skip
          refine lv_iload hx hb dX7_sharedOf_65 (lv_at hl 1 rfl) ?_
          refine lv_iconst (v := 1) hx hb dX7_sharedOf_67 (by decide) ?_
          refine lv_isub hx hb dX7_sharedOf_68 ?_
          refine lv_istore (lv' := [(7, .int ((f_X7_dimensionsOf p0) - (1 : Int32))), (6, .int (f_X7_dimensionsOf p1)), (5, .int (f_X7_dimensionsOf p0)), (4, .int (p1 &&& 65535)), (3, .int (p0 &&& 65535)), (0, .ref h0), (1, .int p0), (2, .int p1)]) hx hb dX7_sharedOf_69 hl (by decide) rfl (fun ls hl => ?_)
          refine lv_iload hx hb dX7_sharedOf_71 (lv_at hl 3 rfl) ?_
          refine lv_ldc (v := 65528) hx hb hown k_2 dX7_sharedOf_73 ?_
          refine lv_icmp_ge (tgt := 83) hx hb dX7_sharedOf_75 (by decide) (fun c_12 => ?_) (fun c_12 => ?_)
          · skip
            refine lv_iload hx hb dX7_sharedOf_83 (lv_at hl 1 rfl) ?_
            refine lv_iconst (v := 1) hx hb dX7_sharedOf_85 (by decide) ?_
            refine lv_isub hx hb dX7_sharedOf_86 ?_
            refine lv_istore (lv' := [(8, .int ((f_X7_dimensionsOf p1) - (1 : Int32))), (7, .int ((f_X7_dimensionsOf p0) - (1 : Int32))), (6, .int (f_X7_dimensionsOf p1)), (5, .int (f_X7_dimensionsOf p0)), (4, .int (p1 &&& 65535)), (3, .int (p0 &&& 65535)), (0, .ref h0), (1, .int p0), (2, .int p1)]) hx hb dX7_sharedOf_87 hl (by decide) rfl (fun ls hl => ?_)
            refine lv_iload hx hb dX7_sharedOf_89 (lv_at hl 1 rfl) ?_
            refine lv_iload hx hb dX7_sharedOf_91 (lv_at hl 0 rfl) ?_
            refine lv_icmp_ge (tgt := 101) hx hb dX7_sharedOf_93 (by decide) (fun c_13 => ?_) (fun c_13 => ?_)
            · skip
              refine lv_iload hx hb dX7_sharedOf_101 (lv_at hl 0 rfl) ?_
              refine lv_bipush (v := 16) hx hb dX7_sharedOf_103 (by decide) ?_
              refine lv_ishl hx hb dX7_sharedOf_105 ?_
              exact W.iret hx hb hr (fun t ht hW => ⟨⟨_, (), rfl, by rw [f_X7_sharedOf, if_neg c_1, if_pos c_2, if_pos c_10, if_pos c_11, if_pos c_12, if_pos c_13], trivial⟩, hS.F ht⟩) hS.2.2 dX7_sharedOf_106
            · skip
              refine lv_iload hx hb dX7_sharedOf_96 (lv_at hl 1 rfl) ?_
              refine lv_goto (tgt := 103) hx hb dX7_sharedOf_98 (by decide) ?_
              refine lv_bipush (v := 16) hx hb dX7_sharedOf_103 (by decide) ?_
              refine lv_ishl hx hb dX7_sharedOf_105 ?_
              exact W.iret hx hb hr (fun t ht hW => ⟨⟨_, (), rfl, by rw [f_X7_sharedOf, if_neg c_1, if_pos c_2, if_pos c_10, if_pos c_11, if_pos c_12, if_neg c_13], trivial⟩, hS.F ht⟩) hS.2.2 dX7_sharedOf_106
          · skip
            refine lv_iload hx hb dX7_sharedOf_78 (lv_at hl 1 rfl) ?_
            refine lv_goto (tgt := 87) hx hb dX7_sharedOf_80 (by decide) ?_
            refine lv_istore (lv' := [(8, .int (f_X7_dimensionsOf p1)), (7, .int ((f_X7_dimensionsOf p0) - (1 : Int32))), (6, .int (f_X7_dimensionsOf p1)), (5, .int (f_X7_dimensionsOf p0)), (4, .int (p1 &&& 65535)), (3, .int (p0 &&& 65535)), (0, .ref h0), (1, .int p0), (2, .int p1)]) hx hb dX7_sharedOf_87 hl (by decide) rfl (fun ls hl => ?_)
            refine lv_iload hx hb dX7_sharedOf_89 (lv_at hl 1 rfl) ?_
            refine lv_iload hx hb dX7_sharedOf_91 (lv_at hl 0 rfl) ?_
            refine lv_icmp_ge (tgt := 101) hx hb dX7_sharedOf_93 (by decide) (fun c_14 => ?_) (fun c_14 => ?_)
            · skip
              refine lv_iload hx hb dX7_sharedOf_101 (lv_at hl 0 rfl) ?_
              refine lv_bipush (v := 16) hx hb dX7_sharedOf_103 (by decide) ?_
              refine lv_ishl hx hb dX7_sharedOf_105 ?_
              exact W.iret hx hb hr (fun t ht hW => ⟨⟨_, (), rfl, by rw [f_X7_sharedOf, if_neg c_1, if_pos c_2, if_pos c_10, if_pos c_11, if_neg c_12, if_pos c_14], trivial⟩, hS.F ht⟩) hS.2.2 dX7_sharedOf_106
            · skip
              refine lv_iload hx hb dX7_sharedOf_96 (lv_at hl 1 rfl) ?_
              refine lv_goto (tgt := 103) hx hb dX7_sharedOf_98 (by decide) ?_
              refine lv_bipush (v := 16) hx hb dX7_sharedOf_103 (by decide) ?_
              refine lv_ishl hx hb dX7_sharedOf_105 ?_
              exact W.iret hx hb hr (fun t ht hW => ⟨⟨_, (), rfl, by rw [f_X7_sharedOf, if_neg c_1, if_pos c_2, if_pos c_10, if_pos c_11, if_neg c_12, if_neg c_14], trivial⟩, hS.F ht⟩) hS.2.2 dX7_sharedOf_106
        · skip
          refine lv_iload hx hb dX7_sharedOf_60 (lv_at hl 1 rfl) ?_
          refine lv_goto (tgt := 69) hx hb dX7_sharedOf_62 (by decide) ?_
          refine lv_istore (lv' := [(7, .int (f_X7_dimensionsOf p0)), (6, .int (f_X7_dimensionsOf p1)), (5, .int (f_X7_dimensionsOf p0)), (4, .int (p1 &&& 65535)), (3, .int (p0 &&& 65535)), (0, .ref h0), (1, .int p0), (2, .int p1)]) hx hb dX7_sharedOf_69 hl (by decide) rfl (fun ls hl => ?_)
          refine lv_iload hx hb dX7_sharedOf_71 (lv_at hl 3 rfl) ?_
          refine lv_ldc (v := 65528) hx hb hown k_2 dX7_sharedOf_73 ?_
          refine lv_icmp_ge (tgt := 83) hx hb dX7_sharedOf_75 (by decide) (fun c_15 => ?_) (fun c_15 => ?_)
          · skip
            refine lv_iload hx hb dX7_sharedOf_83 (lv_at hl 1 rfl) ?_
            refine lv_iconst (v := 1) hx hb dX7_sharedOf_85 (by decide) ?_
            refine lv_isub hx hb dX7_sharedOf_86 ?_
            refine lv_istore (lv' := [(8, .int ((f_X7_dimensionsOf p1) - (1 : Int32))), (7, .int (f_X7_dimensionsOf p0)), (6, .int (f_X7_dimensionsOf p1)), (5, .int (f_X7_dimensionsOf p0)), (4, .int (p1 &&& 65535)), (3, .int (p0 &&& 65535)), (0, .ref h0), (1, .int p0), (2, .int p1)]) hx hb dX7_sharedOf_87 hl (by decide) rfl (fun ls hl => ?_)
            refine lv_iload hx hb dX7_sharedOf_89 (lv_at hl 1 rfl) ?_
            refine lv_iload hx hb dX7_sharedOf_91 (lv_at hl 0 rfl) ?_
            refine lv_icmp_ge (tgt := 101) hx hb dX7_sharedOf_93 (by decide) (fun c_16 => ?_) (fun c_16 => ?_)
            · skip
              refine lv_iload hx hb dX7_sharedOf_101 (lv_at hl 0 rfl) ?_
              refine lv_bipush (v := 16) hx hb dX7_sharedOf_103 (by decide) ?_
              refine lv_ishl hx hb dX7_sharedOf_105 ?_
              exact W.iret hx hb hr (fun t ht hW => ⟨⟨_, (), rfl, by rw [f_X7_sharedOf, if_neg c_1, if_pos c_2, if_pos c_10, if_neg c_11, if_pos c_15, if_pos c_16], trivial⟩, hS.F ht⟩) hS.2.2 dX7_sharedOf_106
            · skip
              refine lv_iload hx hb dX7_sharedOf_96 (lv_at hl 1 rfl) ?_
              refine lv_goto (tgt := 103) hx hb dX7_sharedOf_98 (by decide) ?_
              refine lv_bipush (v := 16) hx hb dX7_sharedOf_103 (by decide) ?_
              refine lv_ishl hx hb dX7_sharedOf_105 ?_
              exact W.iret hx hb hr (fun t ht hW => ⟨⟨_, (), rfl, by rw [f_X7_sharedOf, if_neg c_1, if_pos c_2, if_pos c_10, if_neg c_11, if_pos c_15, if_neg c_16], trivial⟩, hS.F ht⟩) hS.2.2 dX7_sharedOf_106
          · skip
            refine lv_iload hx hb dX7_sharedOf_78 (lv_at hl 1 rfl) ?_
            refine lv_goto (tgt := 87) hx hb dX7_sharedOf_80 (by decide) ?_
            refine lv_istore (lv' := [(8, .int (f_X7_dimensionsOf p1)), (7, .int (f_X7_dimensionsOf p0)), (6, .int (f_X7_dimensionsOf p1)), (5, .int (f_X7_dimensionsOf p0)), (4, .int (p1 &&& 65535)), (3, .int (p0 &&& 65535)), (0, .ref h0), (1, .int p0), (2, .int p1)]) hx hb dX7_sharedOf_87 hl (by decide) rfl (fun ls hl => ?_)
            refine lv_iload hx hb dX7_sharedOf_89 (lv_at hl 1 rfl) ?_
            refine lv_iload hx hb dX7_sharedOf_91 (lv_at hl 0 rfl) ?_
            refine lv_icmp_ge (tgt := 101) hx hb dX7_sharedOf_93 (by decide) (fun c_17 => ?_) (fun c_17 => ?_)
            · skip
              refine lv_iload hx hb dX7_sharedOf_101 (lv_at hl 0 rfl) ?_
              refine lv_bipush (v := 16) hx hb dX7_sharedOf_103 (by decide) ?_
              refine lv_ishl hx hb dX7_sharedOf_105 ?_
              exact W.iret hx hb hr (fun t ht hW => ⟨⟨_, (), rfl, by rw [f_X7_sharedOf, if_neg c_1, if_pos c_2, if_pos c_10, if_neg c_11, if_neg c_15, if_pos c_17], trivial⟩, hS.F ht⟩) hS.2.2 dX7_sharedOf_106
            · skip
              refine lv_iload hx hb dX7_sharedOf_96 (lv_at hl 1 rfl) ?_
              refine lv_goto (tgt := 103) hx hb dX7_sharedOf_98 (by decide) ?_
              refine lv_bipush (v := 16) hx hb dX7_sharedOf_103 (by decide) ?_
              refine lv_ishl hx hb dX7_sharedOf_105 ?_
              exact W.iret hx hb hr (fun t ht hW => ⟨⟨_, (), rfl, by rw [f_X7_sharedOf, if_neg c_1, if_pos c_2, if_pos c_10, if_neg c_11, if_neg c_15, if_neg c_17], trivial⟩, hS.F ht⟩) hS.2.2 dX7_sharedOf_106
      · skip
        refine lv_iload hx hb dX7_sharedOf_45 (lv_at hl 2 rfl) ?_
        refine lv_aload_n hx hb dX7_sharedOf_47 rfl (lv_at hl 4 rfl) ?_
        refine va_get (D := (dC, dI)) (ci := 7) (v := .int 4) (C := RX7) (T := TX7) (N := 3) hx hb hts i_X7_sharedOf_X7 hown hK hP 0 rfl rfl 2 (by decide) k_3 (fun _ h9 => h9) rfl dX7_sharedOf_48 ?_
        refine lv_icmp_lt (tgt := 107) hx hb dX7_sharedOf_51 (by decide) (fun c_18 => ?_) (fun c_18 => ?_)
        · skip
          refine lv_iconst (v := 0) hx hb dX7_sharedOf_107 (by decide) ?_
          refine lv_istore (lv' := [(7, .int 0), (6, .int (f_X7_dimensionsOf p1)), (5, .int (f_X7_dimensionsOf p0)), (4, .int (p1 &&& 65535)), (3, .int (p0 &&& 65535)), (0, .ref h0), (1, .int p0), (2, .int p1)]) hx hb dX7_sharedOf_108 hl (by decide) rfl (fun ls hl => ?_)
          refine lv_iload hx hb dX7_sharedOf_110 (lv_at hl 0 rfl) ?_
          refine lv_sipush (v := 400) hx hb dX7_sharedOf_112 (by decide) ?_
          refine lv_icmp_ge (tgt := 155) hx hb dX7_sharedOf_115 (by decide) (fun c_19 => absurd c_19 (by decide)) (fun _ => ?_)
          refine lv_iload_n hx hb dX7_sharedOf_118 rfl (lv_at hl 4 rfl) ?_
          refine lv_iload hx hb dX7_sharedOf_119 (lv_at hl 3 rfl) ?_
          refine lv_icmp_eq (tgt := 155) hx hb dX7_sharedOf_121 (by decide) (fun c_20 => ?_) (fun c_20 => ?_)
          · skip
            refine lv_iload hx hb dX7_sharedOf_155 (lv_at hl 2 rfl) ?_
            refine lv_bipush (v := 16) hx hb dX7_sharedOf_157 (by decide) ?_
            refine lv_ishl hx hb dX7_sharedOf_159 ?_
            refine lv_iload_n hx hb dX7_sharedOf_160 rfl (lv_at hl 4 rfl) ?_
            refine lv_iadd hx hb dX7_sharedOf_161 ?_
            exact W.iret hx hb hr (fun t ht hW => ⟨⟨_, (), rfl, by rw [f_X7_sharedOf, if_neg c_1, if_pos c_2, if_neg c_10, if_pos c_18, if_pos c_20], trivial⟩, hS.F ht⟩) hS.2.2 dX7_sharedOf_162
          · skip
            refine lv_iload_n hx hb dX7_sharedOf_124 rfl (lv_at hl 4 rfl) ?_
            refine lv_iload hx hb dX7_sharedOf_125 (lv_at hl 3 rfl) ?_
            refine lv_icmp_le (tgt := 140) hx hb dX7_sharedOf_127 (by decide) (fun c_21 => ?_) (fun c_21 => ?_)
            · skip
              refine lv_aload_n hx hb dX7_sharedOf_140 rfl (lv_at hl 5 rfl) ?_
              refine va_get (D := (dC, dI)) (ci := 7) (v := .ref h1) (C := RX7) (T := TX7) (N := 3) hx hb hts i_X7_sharedOf_X7 hown hK hP 0 rfl rfl 0 (by decide) k_4 (fun _ h9 => h9) rfl dX7_sharedOf_141 ?_
              refine lv_iload hx hb dX7_sharedOf_144 (lv_at hl 3 rfl) ?_
              refine va_iald hx hb hK hP 1 0 rfl rfl (x_in4 (x_mpos _) (by assumption)) dX7_sharedOf_146 ?_
              refine lv_topi (fun z_22 ez_22 => ?_)
              obtain rfl : z_22 = 0 := ez_22
              refine lv_istore (lv' := [(4, .int 0), (7, .int 0), (6, .int (f_X7_dimensionsOf p1)), (5, .int (f_X7_dimensionsOf p0)), (3, .int (p0 &&& 65535)), (0, .ref h0), (1, .int p0), (2, .int p1)]) hx hb dX7_sharedOf_147 hl (by decide) rfl (fun ls hl => ?_)
              refine lv_iinc (v := 1) (lv' := [(7, .int 1), (4, .int 0), (6, .int (f_X7_dimensionsOf p1)), (5, .int (f_X7_dimensionsOf p0)), (3, .int (p0 &&& 65535)), (0, .ref h0), (1, .int p0), (2, .int p1)]) hx hb dX7_sharedOf_149 hl (k := 1) rfl (by decide) (by decide) rfl (fun ls hl => ?_)
              refine lv_goto (tgt := 110) hx hb dX7_sharedOf_152 (by decide) ?_
              refine lv_iload hx hb dX7_sharedOf_110 (lv_at hl 0 rfl) ?_
              refine lv_sipush (v := 400) hx hb dX7_sharedOf_112 (by decide) ?_
              refine lv_icmp_ge (tgt := 155) hx hb dX7_sharedOf_115 (by decide) (fun c_23 => absurd c_23 (by decide)) (fun _ => ?_)
              refine lv_iload_n hx hb dX7_sharedOf_118 rfl (lv_at hl 4 rfl) ?_
              refine lv_iload hx hb dX7_sharedOf_119 (lv_at hl 1 rfl) ?_
              refine lv_icmp_eq (tgt := 155) hx hb dX7_sharedOf_121 (by decide) (fun c_24 => ?_) (fun c_24 => ?_)
              · skip
                refine lv_iload hx hb dX7_sharedOf_155 (lv_at hl 3 rfl) ?_
                refine lv_bipush (v := 16) hx hb dX7_sharedOf_157 (by decide) ?_
                refine lv_ishl hx hb dX7_sharedOf_159 ?_
                refine lv_iload_n hx hb dX7_sharedOf_160 rfl (lv_at hl 4 rfl) ?_
                refine lv_iadd hx hb dX7_sharedOf_161 ?_
                exact W.iret hx hb hr (fun t ht hW => ⟨⟨_, (), rfl, by rw [f_X7_sharedOf, if_neg c_1, if_pos c_2, if_neg c_10, if_pos c_18, if_neg c_20, if_pos c_21, if_pos c_24], trivial⟩, hS.F ht⟩) hS.2.2 dX7_sharedOf_162
              · skip
                refine lv_iload_n hx hb dX7_sharedOf_124 rfl (lv_at hl 4 rfl) ?_
                refine lv_iload hx hb dX7_sharedOf_125 (lv_at hl 1 rfl) ?_
                refine lv_icmp_le (tgt := 140) hx hb dX7_sharedOf_127 (by decide) (fun c_25 => ?_) (fun c_25 => ?_)
                · exact absurd (x_m0 c_25) (by assumption)
                · skip
                  refine lv_aload_n hx hb dX7_sharedOf_130 rfl (lv_at hl 5 rfl) ?_
                  refine va_get (D := (dC, dI)) (ci := 7) (v := .ref h1) (C := RX7) (T := TX7) (N := 3) hx hb hts i_X7_sharedOf_X7 hown hK hP 0 rfl rfl 0 (by decide) k_4 (fun _ h9 => h9) rfl dX7_sharedOf_131 ?_
                  refine lv_iload_n hx hb dX7_sharedOf_134 rfl (lv_at hl 4 rfl) ?_
                  refine va_iald hx hb hK hP 1 0 rfl rfl (x_in4n (x_mpos _) (by assumption)) dX7_sharedOf_135 ?_
                  refine lv_topi (fun z_26 ez_26 => ?_)
                  obtain rfl : z_26 = 0 := ez_26
                  refine lv_istore_n (lv' := [(3, .int 0), (7, .int 1), (4, .int 0), (6, .int (f_X7_dimensionsOf p1)), (5, .int (f_X7_dimensionsOf p0)), (0, .ref h0), (1, .int p0), (2, .int p1)]) hx hb dX7_sharedOf_136 rfl hl (by decide) rfl (fun ls hl => ?_)
                  refine lv_goto (tgt := 149) hx hb dX7_sharedOf_137 (by decide) ?_
                  refine lv_iinc (v := 2) (lv' := [(7, .int 2), (3, .int 0), (4, .int 0), (6, .int (f_X7_dimensionsOf p1)), (5, .int (f_X7_dimensionsOf p0)), (0, .ref h0), (1, .int p0), (2, .int p1)]) hx hb dX7_sharedOf_149 hl (k := 1) rfl (by decide) (by decide) rfl (fun ls hl => ?_)
                  refine lv_goto (tgt := 110) hx hb dX7_sharedOf_152 (by decide) ?_
                  refine lv_iload hx hb dX7_sharedOf_110 (lv_at hl 0 rfl) ?_
                  refine lv_sipush (v := 400) hx hb dX7_sharedOf_112 (by decide) ?_
                  refine lv_icmp_ge (tgt := 155) hx hb dX7_sharedOf_115 (by decide) (fun c_27 => absurd c_27 (by decide)) (fun _ => ?_)
                  refine lv_iload_n hx hb dX7_sharedOf_118 rfl (lv_at hl 1 rfl) ?_
                  refine lv_iload hx hb dX7_sharedOf_119 (lv_at hl 2 rfl) ?_
                  refine lv_icmp_eq (tgt := 155) hx hb dX7_sharedOf_121 (by decide) (fun _ => ?_) (fun c_28 => absurd (by decide) c_28)
                  refine lv_iload hx hb dX7_sharedOf_155 (lv_at hl 4 rfl) ?_
                  refine lv_bipush (v := 16) hx hb dX7_sharedOf_157 (by decide) ?_
                  refine lv_ishl hx hb dX7_sharedOf_159 ?_
                  refine lv_iload_n hx hb dX7_sharedOf_160 rfl (lv_at hl 1 rfl) ?_
                  refine lv_iadd hx hb dX7_sharedOf_161 ?_
                  exact W.iret hx hb hr (fun t ht hW => ⟨⟨_, (), rfl, by rw [f_X7_sharedOf, if_neg c_1, if_pos c_2, if_neg c_10, if_pos c_18, if_neg c_20, if_pos c_21, if_neg c_24], trivial⟩, hS.F ht⟩) hS.2.2 dX7_sharedOf_162
            · skip
              refine lv_aload_n hx hb dX7_sharedOf_130 rfl (lv_at hl 5 rfl) ?_
              refine va_get (D := (dC, dI)) (ci := 7) (v := .ref h1) (C := RX7) (T := TX7) (N := 3) hx hb hts i_X7_sharedOf_X7 hown hK hP 0 rfl rfl 0 (by decide) k_4 (fun _ h9 => h9) rfl dX7_sharedOf_131 ?_
              refine lv_iload_n hx hb dX7_sharedOf_134 rfl (lv_at hl 4 rfl) ?_
              refine va_iald hx hb hK hP 1 0 rfl rfl (x_in4n (x_mpos _) (by assumption)) dX7_sharedOf_135 ?_
              refine lv_topi (fun z_29 ez_29 => ?_)
              obtain rfl : z_29 = 0 := ez_29
              refine lv_istore_n (lv' := [(3, .int 0), (7, .int 0), (6, .int (f_X7_dimensionsOf p1)), (5, .int (f_X7_dimensionsOf p0)), (4, .int (p1 &&& 65535)), (0, .ref h0), (1, .int p0), (2, .int p1)]) hx hb dX7_sharedOf_136 rfl hl (by decide) rfl (fun ls hl => ?_)
              refine lv_goto (tgt := 149) hx hb dX7_sharedOf_137 (by decide) ?_
              refine lv_iinc (v := 1) (lv' := [(7, .int 1), (3, .int 0), (6, .int (f_X7_dimensionsOf p1)), (5, .int (f_X7_dimensionsOf p0)), (4, .int (p1 &&& 65535)), (0, .ref h0), (1, .int p0), (2, .int p1)]) hx hb dX7_sharedOf_149 hl (k := 1) rfl (by decide) (by decide) rfl (fun ls hl => ?_)
              refine lv_goto (tgt := 110) hx hb dX7_sharedOf_152 (by decide) ?_
              refine lv_iload hx hb dX7_sharedOf_110 (lv_at hl 0 rfl) ?_
              refine lv_sipush (v := 400) hx hb dX7_sharedOf_112 (by decide) ?_
              refine lv_icmp_ge (tgt := 155) hx hb dX7_sharedOf_115 (by decide) (fun c_30 => absurd c_30 (by decide)) (fun _ => ?_)
              refine lv_iload_n hx hb dX7_sharedOf_118 rfl (lv_at hl 1 rfl) ?_
              refine lv_iload hx hb dX7_sharedOf_119 (lv_at hl 4 rfl) ?_
              refine lv_icmp_eq (tgt := 155) hx hb dX7_sharedOf_121 (by decide) (fun c_31 => ?_) (fun c_31 => ?_)
              · skip
                refine lv_iload hx hb dX7_sharedOf_155 (lv_at hl 3 rfl) ?_
                refine lv_bipush (v := 16) hx hb dX7_sharedOf_157 (by decide) ?_
                refine lv_ishl hx hb dX7_sharedOf_159 ?_
                refine lv_iload_n hx hb dX7_sharedOf_160 rfl (lv_at hl 1 rfl) ?_
                refine lv_iadd hx hb dX7_sharedOf_161 ?_
                exact W.iret hx hb hr (fun t ht hW => ⟨⟨_, (), rfl, by rw [f_X7_sharedOf, if_neg c_1, if_pos c_2, if_neg c_10, if_pos c_18, if_neg c_20, if_neg c_21, if_pos c_31], trivial⟩, hS.F ht⟩) hS.2.2 dX7_sharedOf_162
              · skip
                refine lv_iload_n hx hb dX7_sharedOf_124 rfl (lv_at hl 1 rfl) ?_
                refine lv_iload hx hb dX7_sharedOf_125 (lv_at hl 4 rfl) ?_
                refine lv_icmp_le (tgt := 140) hx hb dX7_sharedOf_127 (by decide) (fun c_32 => ?_) (fun c_32 => ?_)
                · skip
                  refine lv_aload_n hx hb dX7_sharedOf_140 rfl (lv_at hl 5 rfl) ?_
                  refine va_get (D := (dC, dI)) (ci := 7) (v := .ref h1) (C := RX7) (T := TX7) (N := 3) hx hb hts i_X7_sharedOf_X7 hown hK hP 0 rfl rfl 0 (by decide) k_4 (fun _ h9 => h9) rfl dX7_sharedOf_141 ?_
                  refine lv_iload hx hb dX7_sharedOf_144 (lv_at hl 4 rfl) ?_
                  refine va_iald hx hb hK hP 1 0 rfl rfl (x_in4 (x_mpos _) (by assumption)) dX7_sharedOf_146 ?_
                  refine lv_topi (fun z_33 ez_33 => ?_)
                  obtain rfl : z_33 = 0 := ez_33
                  refine lv_istore (lv' := [(4, .int 0), (7, .int 1), (3, .int 0), (6, .int (f_X7_dimensionsOf p1)), (5, .int (f_X7_dimensionsOf p0)), (0, .ref h0), (1, .int p0), (2, .int p1)]) hx hb dX7_sharedOf_147 hl (by decide) rfl (fun ls hl => ?_)
                  refine lv_iinc (v := 2) (lv' := [(7, .int 2), (4, .int 0), (3, .int 0), (6, .int (f_X7_dimensionsOf p1)), (5, .int (f_X7_dimensionsOf p0)), (0, .ref h0), (1, .int p0), (2, .int p1)]) hx hb dX7_sharedOf_149 hl (k := 1) rfl (by decide) (by decide) rfl (fun ls hl => ?_)
                  refine lv_goto (tgt := 110) hx hb dX7_sharedOf_152 (by decide) ?_
                  refine lv_iload hx hb dX7_sharedOf_110 (lv_at hl 0 rfl) ?_
                  refine lv_sipush (v := 400) hx hb dX7_sharedOf_112 (by decide) ?_
                  refine lv_icmp_ge (tgt := 155) hx hb dX7_sharedOf_115 (by decide) (fun c_34 => absurd c_34 (by decide)) (fun _ => ?_)
                  refine lv_iload_n hx hb dX7_sharedOf_118 rfl (lv_at hl 2 rfl) ?_
                  refine lv_iload hx hb dX7_sharedOf_119 (lv_at hl 1 rfl) ?_
                  refine lv_icmp_eq (tgt := 155) hx hb dX7_sharedOf_121 (by decide) (fun _ => ?_) (fun c_35 => absurd (by decide) c_35)
                  refine lv_iload hx hb dX7_sharedOf_155 (lv_at hl 4 rfl) ?_
                  refine lv_bipush (v := 16) hx hb dX7_sharedOf_157 (by decide) ?_
                  refine lv_ishl hx hb dX7_sharedOf_159 ?_
                  refine lv_iload_n hx hb dX7_sharedOf_160 rfl (lv_at hl 2 rfl) ?_
                  refine lv_iadd hx hb dX7_sharedOf_161 ?_
                  exact W.iret hx hb hr (fun t ht hW => ⟨⟨_, (), rfl, by rw [f_X7_sharedOf, if_neg c_1, if_pos c_2, if_neg c_10, if_pos c_18, if_neg c_20, if_neg c_21, if_neg c_31], trivial⟩, hS.F ht⟩) hS.2.2 dX7_sharedOf_162
                · exact absurd (x_mpos _) c_32
        · skip
          refine lv_iload_n hx hb dX7_sharedOf_54 rfl (lv_at hl 3 rfl) ?_
          refine lv_ldc (v := 65528) hx hb hown k_2 dX7_sharedOf_55 ?_
          refine lv_icmp_ge (tgt := 65) hx hb dX7_sharedOf_57 (by decide) (fun c_36 => ?_) (fun c_36 => ?_)
          · skip
            refine lv_iload hx hb dX7_sharedOf_65 (lv_at hl 1 rfl) ?_
            refine lv_iconst (v := 1) hx hb dX7_sharedOf_67 (by decide) ?_
            refine lv_isub hx hb dX7_sharedOf_68 ?_
            refine lv_istore (lv' := [(7, .int ((f_X7_dimensionsOf p0) - (1 : Int32))), (6, .int (f_X7_dimensionsOf p1)), (5, .int (f_X7_dimensionsOf p0)), (4, .int (p1 &&& 65535)), (3, .int (p0 &&& 65535)), (0, .ref h0), (1, .int p0), (2, .int p1)]) hx hb dX7_sharedOf_69 hl (by decide) rfl (fun ls hl => ?_)
            refine lv_iload hx hb dX7_sharedOf_71 (lv_at hl 3 rfl) ?_
            refine lv_ldc (v := 65528) hx hb hown k_2 dX7_sharedOf_73 ?_
            refine lv_icmp_ge (tgt := 83) hx hb dX7_sharedOf_75 (by decide) (fun c_37 => ?_) (fun c_37 => ?_)
            · skip
              refine lv_iload hx hb dX7_sharedOf_83 (lv_at hl 1 rfl) ?_
              refine lv_iconst (v := 1) hx hb dX7_sharedOf_85 (by decide) ?_
              refine lv_isub hx hb dX7_sharedOf_86 ?_
              refine lv_istore (lv' := [(8, .int ((f_X7_dimensionsOf p1) - (1 : Int32))), (7, .int ((f_X7_dimensionsOf p0) - (1 : Int32))), (6, .int (f_X7_dimensionsOf p1)), (5, .int (f_X7_dimensionsOf p0)), (4, .int (p1 &&& 65535)), (3, .int (p0 &&& 65535)), (0, .ref h0), (1, .int p0), (2, .int p1)]) hx hb dX7_sharedOf_87 hl (by decide) rfl (fun ls hl => ?_)
              refine lv_iload hx hb dX7_sharedOf_89 (lv_at hl 1 rfl) ?_
              refine lv_iload hx hb dX7_sharedOf_91 (lv_at hl 0 rfl) ?_
              refine lv_icmp_ge (tgt := 101) hx hb dX7_sharedOf_93 (by decide) (fun c_38 => ?_) (fun c_38 => ?_)
              · skip
                refine lv_iload hx hb dX7_sharedOf_101 (lv_at hl 0 rfl) ?_
                refine lv_bipush (v := 16) hx hb dX7_sharedOf_103 (by decide) ?_
                refine lv_ishl hx hb dX7_sharedOf_105 ?_
                exact W.iret hx hb hr (fun t ht hW => ⟨⟨_, (), rfl, by rw [f_X7_sharedOf, if_neg c_1, if_pos c_2, if_neg c_10, if_neg c_18, if_pos c_36, if_pos c_37, if_pos c_38], trivial⟩, hS.F ht⟩) hS.2.2 dX7_sharedOf_106
              · skip
                refine lv_iload hx hb dX7_sharedOf_96 (lv_at hl 1 rfl) ?_
                refine lv_goto (tgt := 103) hx hb dX7_sharedOf_98 (by decide) ?_
                refine lv_bipush (v := 16) hx hb dX7_sharedOf_103 (by decide) ?_
                refine lv_ishl hx hb dX7_sharedOf_105 ?_
                exact W.iret hx hb hr (fun t ht hW => ⟨⟨_, (), rfl, by rw [f_X7_sharedOf, if_neg c_1, if_pos c_2, if_neg c_10, if_neg c_18, if_pos c_36, if_pos c_37, if_neg c_38], trivial⟩, hS.F ht⟩) hS.2.2 dX7_sharedOf_106
            · skip
              refine lv_iload hx hb dX7_sharedOf_78 (lv_at hl 1 rfl) ?_
              refine lv_goto (tgt := 87) hx hb dX7_sharedOf_80 (by decide) ?_
              refine lv_istore (lv' := [(8, .int (f_X7_dimensionsOf p1)), (7, .int ((f_X7_dimensionsOf p0) - (1 : Int32))), (6, .int (f_X7_dimensionsOf p1)), (5, .int (f_X7_dimensionsOf p0)), (4, .int (p1 &&& 65535)), (3, .int (p0 &&& 65535)), (0, .ref h0), (1, .int p0), (2, .int p1)]) hx hb dX7_sharedOf_87 hl (by decide) rfl (fun ls hl => ?_)
              refine lv_iload hx hb dX7_sharedOf_89 (lv_at hl 1 rfl) ?_
              refine lv_iload hx hb dX7_sharedOf_91 (lv_at hl 0 rfl) ?_
              refine lv_icmp_ge (tgt := 101) hx hb dX7_sharedOf_93 (by decide) (fun c_39 => ?_) (fun c_39 => ?_)
              · skip
                refine lv_iload hx hb dX7_sharedOf_101 (lv_at hl 0 rfl) ?_
                refine lv_bipush (v := 16) hx hb dX7_sharedOf_103 (by decide) ?_
                refine lv_ishl hx hb dX7_sharedOf_105 ?_
                exact W.iret hx hb hr (fun t ht hW => ⟨⟨_, (), rfl, by rw [f_X7_sharedOf, if_neg c_1, if_pos c_2, if_neg c_10, if_neg c_18, if_pos c_36, if_neg c_37, if_pos c_39], trivial⟩, hS.F ht⟩) hS.2.2 dX7_sharedOf_106
              · skip
                refine lv_iload hx hb dX7_sharedOf_96 (lv_at hl 1 rfl) ?_
                refine lv_goto (tgt := 103) hx hb dX7_sharedOf_98 (by decide) ?_
                refine lv_bipush (v := 16) hx hb dX7_sharedOf_103 (by decide) ?_
                refine lv_ishl hx hb dX7_sharedOf_105 ?_
                exact W.iret hx hb hr (fun t ht hW => ⟨⟨_, (), rfl, by rw [f_X7_sharedOf, if_neg c_1, if_pos c_2, if_neg c_10, if_neg c_18, if_pos c_36, if_neg c_37, if_neg c_39], trivial⟩, hS.F ht⟩) hS.2.2 dX7_sharedOf_106
          · skip
            refine lv_iload hx hb dX7_sharedOf_60 (lv_at hl 1 rfl) ?_
            refine lv_goto (tgt := 69) hx hb dX7_sharedOf_62 (by decide) ?_
            refine lv_istore (lv' := [(7, .int (f_X7_dimensionsOf p0)), (6, .int (f_X7_dimensionsOf p1)), (5, .int (f_X7_dimensionsOf p0)), (4, .int (p1 &&& 65535)), (3, .int (p0 &&& 65535)), (0, .ref h0), (1, .int p0), (2, .int p1)]) hx hb dX7_sharedOf_69 hl (by decide) rfl (fun ls hl => ?_)
            refine lv_iload hx hb dX7_sharedOf_71 (lv_at hl 3 rfl) ?_
            refine lv_ldc (v := 65528) hx hb hown k_2 dX7_sharedOf_73 ?_
            refine lv_icmp_ge (tgt := 83) hx hb dX7_sharedOf_75 (by decide) (fun c_40 => ?_) (fun c_40 => ?_)
            · skip
              refine lv_iload hx hb dX7_sharedOf_83 (lv_at hl 1 rfl) ?_
              refine lv_iconst (v := 1) hx hb dX7_sharedOf_85 (by decide) ?_
              refine lv_isub hx hb dX7_sharedOf_86 ?_
              refine lv_istore (lv' := [(8, .int ((f_X7_dimensionsOf p1) - (1 : Int32))), (7, .int (f_X7_dimensionsOf p0)), (6, .int (f_X7_dimensionsOf p1)), (5, .int (f_X7_dimensionsOf p0)), (4, .int (p1 &&& 65535)), (3, .int (p0 &&& 65535)), (0, .ref h0), (1, .int p0), (2, .int p1)]) hx hb dX7_sharedOf_87 hl (by decide) rfl (fun ls hl => ?_)
              refine lv_iload hx hb dX7_sharedOf_89 (lv_at hl 1 rfl) ?_
              refine lv_iload hx hb dX7_sharedOf_91 (lv_at hl 0 rfl) ?_
              refine lv_icmp_ge (tgt := 101) hx hb dX7_sharedOf_93 (by decide) (fun c_41 => ?_) (fun c_41 => ?_)
              · skip
                refine lv_iload hx hb dX7_sharedOf_101 (lv_at hl 0 rfl) ?_
                refine lv_bipush (v := 16) hx hb dX7_sharedOf_103 (by decide) ?_
                refine lv_ishl hx hb dX7_sharedOf_105 ?_
                exact W.iret hx hb hr (fun t ht hW => ⟨⟨_, (), rfl, by rw [f_X7_sharedOf, if_neg c_1, if_pos c_2, if_neg c_10, if_neg c_18, if_neg c_36, if_pos c_40, if_pos c_41], trivial⟩, hS.F ht⟩) hS.2.2 dX7_sharedOf_106
              · skip
                refine lv_iload hx hb dX7_sharedOf_96 (lv_at hl 1 rfl) ?_
                refine lv_goto (tgt := 103) hx hb dX7_sharedOf_98 (by decide) ?_
                refine lv_bipush (v := 16) hx hb dX7_sharedOf_103 (by decide) ?_
                refine lv_ishl hx hb dX7_sharedOf_105 ?_
                exact W.iret hx hb hr (fun t ht hW => ⟨⟨_, (), rfl, by rw [f_X7_sharedOf, if_neg c_1, if_pos c_2, if_neg c_10, if_neg c_18, if_neg c_36, if_pos c_40, if_neg c_41], trivial⟩, hS.F ht⟩) hS.2.2 dX7_sharedOf_106
            · skip
              refine lv_iload hx hb dX7_sharedOf_78 (lv_at hl 1 rfl) ?_
              refine lv_goto (tgt := 87) hx hb dX7_sharedOf_80 (by decide) ?_
              refine lv_istore (lv' := [(8, .int (f_X7_dimensionsOf p1)), (7, .int (f_X7_dimensionsOf p0)), (6, .int (f_X7_dimensionsOf p1)), (5, .int (f_X7_dimensionsOf p0)), (4, .int (p1 &&& 65535)), (3, .int (p0 &&& 65535)), (0, .ref h0), (1, .int p0), (2, .int p1)]) hx hb dX7_sharedOf_87 hl (by decide) rfl (fun ls hl => ?_)
              refine lv_iload hx hb dX7_sharedOf_89 (lv_at hl 1 rfl) ?_
              refine lv_iload hx hb dX7_sharedOf_91 (lv_at hl 0 rfl) ?_
              refine lv_icmp_ge (tgt := 101) hx hb dX7_sharedOf_93 (by decide) (fun c_42 => ?_) (fun c_42 => ?_)
              · skip
                refine lv_iload hx hb dX7_sharedOf_101 (lv_at hl 0 rfl) ?_
                refine lv_bipush (v := 16) hx hb dX7_sharedOf_103 (by decide) ?_
                refine lv_ishl hx hb dX7_sharedOf_105 ?_
                exact W.iret hx hb hr (fun t ht hW => ⟨⟨_, (), rfl, by rw [f_X7_sharedOf, if_neg c_1, if_pos c_2, if_neg c_10, if_neg c_18, if_neg c_36, if_neg c_40, if_pos c_42], trivial⟩, hS.F ht⟩) hS.2.2 dX7_sharedOf_106
              · skip
                refine lv_iload hx hb dX7_sharedOf_96 (lv_at hl 1 rfl) ?_
                refine lv_goto (tgt := 103) hx hb dX7_sharedOf_98 (by decide) ?_
                refine lv_bipush (v := 16) hx hb dX7_sharedOf_103 (by decide) ?_
                refine lv_ishl hx hb dX7_sharedOf_105 ?_
                exact W.iret hx hb hr (fun t ht hW => ⟨⟨_, (), rfl, by rw [f_X7_sharedOf, if_neg c_1, if_pos c_2, if_neg c_10, if_neg c_18, if_neg c_36, if_neg c_40, if_neg c_42], trivial⟩, hS.F ht⟩) hS.2.2 dX7_sharedOf_106
  · skip
    refine lv_iload_n hx hb dX7_sharedOf_5 rfl (lv_at hl 1 rfl) ?_
    exact W.iret hx hb hr (fun t ht hW => ⟨⟨_, (), rfl, by rw [f_X7_sharedOf, if_pos c_1], trivial⟩, hS.F ht⟩) hS.2.2 dX7_sharedOf_6

theorem i_X7_enter_X7 : ∀ w ∈ wsX70, w ∈ wsX7_enter := by decide +kernel
set_option maxHeartbeats 4000000 in
set_option maxRecDepth 100000 in
theorem c_X7_enter (l : Launch) (dC : Nat → ClassId) (dI : Nat → Nat → Nat) (cyI cyZ cyJ : ClassId) (sz : Nat) (h0 : Nat) (h1 : Nat) (h2 : Nat) (p0 : Int32) (p1 : Int32) : Met l yX7_enter wsX7_enter ({ frames := 0, cells := 0, slots := 0, locals := 0 }) (va_Pc [.ref h0, .int p0, .int p1] (x_PreD (dC, dI) (x_T cyI cyZ cyJ) [(h0, .inr (7, [.ref h1, .ref h2, .int 4])), (h1, .inl (cyI, 200, .inl x_z0)), (h2, .inl (cyZ, 200, .inl x_face))] sz)) (va_Qi (fun (r : Int32) (_ : Unit) => r = 4) (fun _ _ => True) (va_A [(h0, .inr (7, [.ref h1, .ref h2, .int 4])), (h1, .inl (cyI, 200, .inl x_z0)), (h2, .inl (cyZ, 200, .inl x_face))] sz)) 0 0 (va_A [(h0, .inr (7, [.ref h1, .ref h2, .int 4])), (h1, .inl (cyI, 200, .inl x_z0)), (h2, .inl (cyZ, 200, .inl x_face))] sz) := by
  refine Met.ofW (cc := cX7_enter) (maxL := 3) (ret := (some .int)) (by decide) rfl ?_
  intro p e s m args below meth c s₁ B hml hv
  obtain ⟨rfl, ⟨hsz, hP, hK, hN⟩, hD0⟩ := hv
  have hx := B.exec
  have hb := B.bytes
  have hr := B.returns
  have hts := atoms_spec (ws := wsX7_enter) B.pre
  have hown : s.vm.findClass RX7 = some m.cls := findClass_of_methodNamed B.named
  have hlocks := B.notSynchronized
  have k_1 := hts (.fieldLink RX7 9 "FlowJudge$Types" "above" "[I") (by decide +kernel)
  have k_2 := hts (.fieldLink RX7 19 "FlowJudge$Types" "count" "I") (by decide +kernel)
  have k_3 := hts (.fieldLink RX7 15 "FlowJudge$Types" "isInterface" "[Z") (by decide +kernel)
  subst hsz
  have hD := hD0.self (sz := s.heap.size)
  generalize hAe : va_A [(h0, .inr (7, [.ref h1, .ref h2, .int 4])), (h1, .inl (cyI, 200, .inl x_z0)), (h2, .inl (cyZ, 200, .inl x_face))] s.heap.size = A at hD ⊢
  have hA : ∀ q : Nat, s.heap.size ≤ q → A q := fun q h => by rw [← hAe]; exact Or.inr h
  have hS : va_S A s.heap s.heap [] := va_S.rf
  have hP : va_P (dC, dI) vwCl [(h0, .inr (7, [.ref h1, .ref h2, .int 4])), (h1, .inl (cyI, 200, .inl x_z0)), (h2, .inl (cyZ, 200, .inl x_face))] s.heap := hP
  have hl := lv_entry ([.ref h0, .int p0, .int p1]) (n := 3) (Nat.le_of_ble_eq_true rfl)
  rw [lg_entry_eq]
  generalize (lg_sl ([.ref h0, .int p0, .int p1]) ++ List.replicate (3 - (lg_sl ([.ref h0, .int p0, .int p1])).length) Slot.unset).toArray = ls at hl ⊢
  have hl : lv_has ls 3 [(0, .ref h0), (1, .int p0), (2, .int p1)] := hl
  obtain ⟨H, hH⟩ : ∃ z, z = s.heap := ⟨_, rfl⟩
  refine x_here hH ?_
  have hP : va_P (dC, dI) vwCl [(h0, .inr (7, [.ref h1, .ref h2, .int 4])), (h1, .inl (cyI, 200, .inl x_z0)), (h2, .inl (cyZ, 200, .inl x_face))] H := by rw [hH]; exact hP
  have hS : va_S A s.heap H [] := by rw [hH]; exact va_S.rf
  clear hH
  refine lv_aload_n hx hb dX7_enter_0 rfl (lv_at hl 0 rfl) ?_
  refine va_get (D := (dC, dI)) (ci := 7) (v := .ref h1) (C := RX7) (T := TX7) (N := 3) hx hb hts i_X7_enter_X7 hown hK hP 0 rfl rfl 0 (by decide) k_1 (fun _ h9 => h9) rfl dX7_enter_1 ?_
  refine lv_aload_n hx hb dX7_enter_4 rfl (lv_at hl 0 rfl) ?_
  refine va_get (D := (dC, dI)) (ci := 7) (v := .int 4) (C := RX7) (T := TX7) (N := 3) hx hb hts i_X7_enter_X7 hown hK hP 0 rfl rfl 2 (by decide) k_2 (fun _ h9 => h9) rfl dX7_enter_5 ?_
  refine lv_iload_n hx hb dX7_enter_8 rfl (lv_at hl 1 rfl) ?_
  refine va_iast hx hb hK hP hD hS 1 0 rfl rfl (x_lit _ _ (by decide)) dX7_enter_9 (fun H locs hP hD hS => ?_)
  have hP : va_P (dC, dI) vwCl [(h0, .inr (7, [.ref h1, .ref h2, .int 4])), (h1, .inl (cyI, 200, .inl (upd x_z0 (Int32.toNatClampNeg 4) p0))), (h2, .inl (cyZ, 200, .inl x_face))] H := hP
  have hD : va_D A [(h0, .inr (7, [.ref h1, .ref h2, .int 4])), (h1, .inl (cyI, 200, .inl (upd x_z0 (Int32.toNatClampNeg 4) p0))), (h2, .inl (cyZ, 200, .inl x_face))] := hD
  refine lv_aload_n hx hb dX7_enter_10 rfl (lv_at hl 0 rfl) ?_
  refine va_get (D := (dC, dI)) (ci := 7) (v := .ref h2) (C := RX7) (T := TX7) (N := 3) hx hb hts i_X7_enter_X7 hown hK hP 0 rfl rfl 1 (by decide) k_3 (fun _ h9 => h9) rfl dX7_enter_11 ?_
  refine lv_aload_n hx hb dX7_enter_14 rfl (lv_at hl 0 rfl) ?_
  refine va_get (D := (dC, dI)) (ci := 7) (v := .int 4) (C := RX7) (T := TX7) (N := 3) hx hb hts i_X7_enter_X7 hown hK hP 0 rfl rfl 2 (by decide) k_2 (fun _ h9 => h9) rfl dX7_enter_15 ?_
  refine lv_iload_n hx hb dX7_enter_18 rfl (lv_at hl 2 rfl) ?_
  refine va_zast hx hb hK hP hD hS 2 1 rfl rfl (x_lit _ _ (by decide)) dX7_enter_19 (fun H locs hP hD hS => ?_)
  have hP : va_P (dC, dI) vwCl [(h0, .inr (7, [.ref h1, .ref h2, .int 4])), (h1, .inl (cyI, 200, .inl (upd x_z0 (Int32.toNatClampNeg 4) p0))), (h2, .inl (cyZ, 200, .inl (upd x_face (Int32.toNatClampNeg 4) (vp_nar .boolean p1))))] H := hP
  have hD : va_D A [(h0, .inr (7, [.ref h1, .ref h2, .int 4])), (h1, .inl (cyI, 200, .inl (upd x_z0 (Int32.toNatClampNeg 4) p0))), (h2, .inl (cyZ, 200, .inl (upd x_face (Int32.toNatClampNeg 4) (vp_nar .boolean p1))))] := hD
  refine lv_aload_n hx hb dX7_enter_20 rfl (lv_at hl 0 rfl) ?_
  refine lv_dup hx hb dX7_enter_21 rfl ?_
  refine va_get (D := (dC, dI)) (ci := 7) (v := .int 4) (C := RX7) (T := TX7) (N := 3) hx hb hts i_X7_enter_X7 hown hK hP 0 rfl rfl 2 (by decide) k_2 (fun _ h9 => h9) rfl dX7_enter_22 ?_
  refine lv_dup_x1 hx hb dX7_enter_25 rfl rfl ?_
  refine lv_iconst (v := 1) hx hb dX7_enter_26 (by decide) ?_
  refine lv_iadd hx hb dX7_enter_27 ?_
  refine lv_topi (fun z_1 ez_1 => ?_)
  obtain rfl : z_1 = 5 := ez_1.trans (by decide)
  refine va_put (D := (dC, dI)) (ci := 7) (v := .int 5) (ty := .int) (C := RX7) (T := TX7) (N := 3) hx hb hts i_X7_enter_X7 tyX7 tyX7_ok nmX7 hown hK hP hD hS 0 rfl rfl 2 (by decide) k_2 (fun _ h9 => h9) rfl (by decide +kernel) rfl rfl (Nat.le_of_ble_eq_true rfl) dX7_enter_28 (fun H locs hP hD hS => ?_)
  have hP : va_P (dC, dI) vwCl [(h0, .inr (7, [.ref h1, .ref h2, .int 5])), (h1, .inl (cyI, 200, .inl (upd x_z0 (Int32.toNatClampNeg 4) p0))), (h2, .inl (cyZ, 200, .inl (upd x_face (Int32.toNatClampNeg 4) (vp_nar .boolean p1))))] H := hP
  have hD : va_D A [(h0, .inr (7, [.ref h1, .ref h2, .int 5])), (h1, .inl (cyI, 200, .inl (upd x_z0 (Int32.toNatClampNeg 4) p0))), (h2, .inl (cyZ, 200, .inl (upd x_face (Int32.toNatClampNeg 4) (vp_nar .boolean p1))))] := hD
  exact W.iret hx hb hr (fun t ht hW => ⟨⟨_, (), rfl, rfl, trivial⟩, hS.F ht⟩) hS.2.2 dX7_enter_31
