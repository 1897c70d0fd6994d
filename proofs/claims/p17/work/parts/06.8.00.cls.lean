def f_X7_isPrimitive (p0 : Int32) : Option (Int32) := if p0 < (65528 : Int32) then some 0 else if (65536 : Int32) ≤ p0 then some 0 else some 1
set_option maxHeartbeats 4000000 in
set_option maxRecDepth 100000 in
theorem c_X7_isPrimitive (l : Launch) (dC : Nat → ClassId) (dI : Nat → Nat → Nat) (cyI cyZ cyJ : ClassId) (sz : Nat) (p0 : Int32) (R : Int32) (hf : f_X7_isPrimitive p0 = some R) : Met l yX7_isPrimitive wsX7_isPrimitive ({ frames := 0, cells := 0, slots := 0, locals := 0 }) (va_Pc [.int p0] (x_Pre (dC, dI) (x_T cyI cyZ cyJ) [] sz)) (va_Qi (fun (r : Int32) (_ : Unit) => r = R ∧ x_nb r) (fun _ _ => True) (x_new sz)) 0 0 (x_new sz) := by
  refine Met.ofW (cc := cX7_isPrimitive) (maxL := 1) (ret := (some .boolean)) (by decide) rfl ?_
  intro p e s m args below meth c s₁ B hml hv
  obtain ⟨rfl, hsz, hP, hK, hN⟩ := hv
  have hx := B.exec
  have hb := B.bytes
  have hr := B.returns
  have hts := atoms_spec (ws := wsX7_isPrimitive) B.pre
  have hown : s.vm.findClass RX7 = some m.cls := findClass_of_methodNamed B.named
  have k_1 := hts (.constant RX7 28 (65528)) (by decide +kernel)
  have k_2 := hts (.constant RX7 36 (65536)) (by decide +kernel)
  subst hsz
  have hA : ∀ q : Nat, s.heap.size ≤ q → x_new s.heap.size q := fun _ h => h
  have hS : va_S (x_new s.heap.size) s.heap s.heap [] := va_S.rf
  have hP : va_P (dC, dI) vwCl [] s.heap := hP
  have hl := lv_entry ([.int p0]) (n := 1) (Nat.le_of_ble_eq_true rfl)
  rw [lg_entry_eq]
  generalize (lg_sl ([.int p0]) ++ List.replicate (1 - (lg_sl ([.int p0])).length) Slot.unset).toArray = ls at hl ⊢
  have hl : lv_has ls 1 [(0, .int p0)] := hl
  obtain ⟨H, hH⟩ : ∃ z, z = s.heap := ⟨_, rfl⟩
  refine x_here hH ?_
  have hP : va_P (dC, dI) vwCl [] H := by rw [hH]; exact hP
  have hS : va_S (x_new s.heap.size) s.heap H [] := by rw [hH]; exact va_S.rf
  clear hH
  obtain ⟨locs, hlo⟩ : ∃ z : List Loc, z = [] := ⟨_, rfl⟩
  refine x_herl hlo ?_
  have hS : va_S (x_new s.heap.size) s.heap H locs := by rw [hlo]; exact hS
  clear hlo
  unfold f_X7_isPrimitive at hf
  refine lv_iload_n hx hb dX7_isPrimitive_0 rfl (lv_at hl 0 rfl) ?_
  refine lv_ldc (v := 65528) hx hb hown k_1 dX7_isPrimitive_1 ?_
  refine lv_icmp_lt (tgt := 16) hx hb dX7_isPrimitive_3 (by decide) (fun c_1 => ?_) (fun c_1 => ?_)
  · replace hf := x_ip c_1 hf
    refine lv_iconst (v := 0) hx hb dX7_isPrimitive_16 (by decide) ?_
    obtain rfl := Option.some.inj hf
    exact W.zret (ty := .boolean) hx hb hr rfl (fun t ht hW => ⟨⟨_, (), rfl, ⟨rfl, rfl⟩, trivial⟩, hS.F ht⟩) hS.2.2 dX7_isPrimitive_17
  · replace hf := x_in c_1 hf
    refine lv_iload_n hx hb dX7_isPrimitive_6 rfl (lv_at hl 0 rfl) ?_
    refine lv_ldc (v := 65536) hx hb hown k_2 dX7_isPrimitive_7 ?_
    refine lv_icmp_ge (tgt := 16) hx hb dX7_isPrimitive_9 (by decide) (fun c_2 => ?_) (fun c_2 => ?_)
    · replace hf := x_ip c_2 hf
      refine lv_iconst (v := 0) hx hb dX7_isPrimitive_16 (by decide) ?_
      obtain rfl := Option.some.inj hf
      exact W.zret (ty := .boolean) hx hb hr rfl (fun t ht hW => ⟨⟨_, (), rfl, ⟨rfl, rfl⟩, trivial⟩, hS.F ht⟩) hS.2.2 dX7_isPrimitive_17
    · replace hf := x_in c_2 hf
      refine lv_iconst (v := 1) hx hb dX7_isPrimitive_12 (by decide) ?_
      refine lv_goto (tgt := 17) hx hb dX7_isPrimitive_13 (by decide) ?_
      obtain rfl := Option.some.inj hf
      exact W.zret (ty := .boolean) hx hb hr rfl (fun t ht hW => ⟨⟨_, (), rfl, ⟨rfl, rfl⟩, trivial⟩, hS.F ht⟩) hS.2.2 dX7_isPrimitive_17

def f_X7_dimensionsOf (p0 : Int32) : Option (Int32) := some (x_ush p0 16)
set_option maxHeartbeats 4000000 in
set_option maxRecDepth 100000 in
theorem c_X7_dimensionsOf (l : Launch) (dC : Nat → ClassId) (dI : Nat → Nat → Nat) (cyI cyZ cyJ : ClassId) (sz : Nat) (p0 : Int32) (R : Int32) (hf : f_X7_dimensionsOf p0 = some R) : Met l yX7_dimensionsOf wsX7_dimensionsOf ({ frames := 0, cells := 0, slots := 0, locals := 0 }) (va_Pc [.int p0] (x_Pre (dC, dI) (x_T cyI cyZ cyJ) [] sz)) (va_Qi (fun (r : Int32) (_ : Unit) => r = R) (fun _ _ => True) (x_new sz)) 0 0 (x_new sz) := by
  refine Met.ofW (cc := cX7_dimensionsOf) (maxL := 1) (ret := (some .int)) (by decide) rfl ?_
  intro p e s m args below meth c s₁ B hml hv
  obtain ⟨rfl, hsz, hP, hK, hN⟩ := hv
  have hx := B.exec
  have hb := B.bytes
  have hr := B.returns
  have hts := atoms_spec (ws := wsX7_dimensionsOf) B.pre
  have hown : s.vm.findClass RX7 = some m.cls := findClass_of_methodNamed B.named
  subst hsz
  have hA : ∀ q : Nat, s.heap.size ≤ q → x_new s.heap.size q := fun _ h => h
  have hS : va_S (x_new s.heap.size) s.heap s.heap [] := va_S.rf
  have hP : va_P (dC, dI) vwCl [] s.heap := hP
  have hl := lv_entry ([.int p0]) (n := 1) (Nat.le_of_ble_eq_true rfl)
  rw [lg_entry_eq]
  generalize (lg_sl ([.int p0]) ++ List.replicate (1 - (lg_sl ([.int p0])).length) Slot.unset).toArray = ls at hl ⊢
  have hl : lv_has ls 1 [(0, .int p0)] := hl
  obtain ⟨H, hH⟩ : ∃ z, z = s.heap := ⟨_, rfl⟩
  refine x_here hH ?_
  have hP : va_P (dC, dI) vwCl [] H := by rw [hH]; exact hP
  have hS : va_S (x_new s.heap.size) s.heap H [] := by rw [hH]; exact va_S.rf
  clear hH
  obtain ⟨locs, hlo⟩ : ∃ z : List Loc, z = [] := ⟨_, rfl⟩
  refine x_herl hlo ?_
  have hS : va_S (x_new s.heap.size) s.heap H locs := by rw [hlo]; exact hS
  clear hlo
  unfold f_X7_dimensionsOf at hf
  refine lv_iload_n hx hb dX7_dimensionsOf_0 rfl (lv_at hl 0 rfl) ?_
  refine lv_bipush (v := 16) hx hb dX7_dimensionsOf_1 (by decide) ?_
  refine lv_iushr (v := (x_ush p0 16)) hx hb dX7_dimensionsOf_3 rfl ?_
  obtain rfl := Option.some.inj hf
  exact W.iret hx hb hr (fun t ht hW => ⟨⟨_, (), rfl, rfl, trivial⟩, hS.F ht⟩) hS.2.2 dX7_dimensionsOf_4

def f_X7_widthOf (p0 : Int32) : Option (Int32) := if p0 = (65535 : Int32) then some 2 else if p0 = (65531 : Int32) then some 2 else some 1
set_option maxHeartbeats 4000000 in
set_option maxRecDepth 100000 in
theorem c_X7_widthOf (l : Launch) (dC : Nat → ClassId) (dI : Nat → Nat → Nat) (cyI cyZ cyJ : ClassId) (sz : Nat) (p0 : Int32) (R : Int32) (hf : f_X7_widthOf p0 = some R) : Met l yX7_widthOf wsX7_widthOf ({ frames := 0, cells := 0, slots := 0, locals := 0 }) (va_Pc [.int p0] (x_Pre (dC, dI) (x_T cyI cyZ cyJ) [] sz)) (va_Qi (fun (r : Int32) (_ : Unit) => r = R) (fun _ _ => True) (x_new sz)) 0 0 (x_new sz) := by
  refine Met.ofW (cc := cX7_widthOf) (maxL := 1) (ret := (some .int)) (by decide) rfl ?_
  intro p e s m args below meth c s₁ B hml hv
  obtain ⟨rfl, hsz, hP, hK, hN⟩ := hv
  have hx := B.exec
  have hb := B.bytes
  have hr := B.returns
  have hts := atoms_spec (ws := wsX7_widthOf) B.pre
  have hown : s.vm.findClass RX7 = some m.cls := findClass_of_methodNamed B.named
  have k_1 := hts (.constant RX7 23 (65535)) (by decide +kernel)
  have k_2 := hts (.constant RX7 37 (65531)) (by decide +kernel)
  subst hsz
  have hA : ∀ q : Nat, s.heap.size ≤ q → x_new s.heap.size q := fun _ h => h
  have hS : va_S (x_new s.heap.size) s.heap s.heap [] := va_S.rf
  have hP : va_P (dC, dI) vwCl [] s.heap := hP
  have hl := lv_entry ([.int p0]) (n := 1) (Nat.le_of_ble_eq_true rfl)
  rw [lg_entry_eq]
  generalize (lg_sl ([.int p0]) ++ List.replicate (1 - (lg_sl ([.int p0])).length) Slot.unset).toArray = ls at hl ⊢
  have hl : lv_has ls 1 [(0, .int p0)] := hl
  obtain ⟨H, hH⟩ : ∃ z, z = s.heap := ⟨_, rfl⟩
  refine x_here hH ?_
  have hP : va_P (dC, dI) vwCl [] H := by rw [hH]; exact hP
  have hS : va_S (x_new s.heap.size) s.heap H [] := by rw [hH]; exact va_S.rf
  clear hH
  obtain ⟨locs, hlo⟩ : ∃ z : List Loc, z = [] := ⟨_, rfl⟩
  refine x_herl hlo ?_
  have hS : va_S (x_new s.heap.size) s.heap H locs := by rw [hlo]; exact hS
  clear hlo
  unfold f_X7_widthOf at hf
  refine lv_iload_n hx hb dX7_widthOf_0 rfl (lv_at hl 0 rfl) ?_
  refine lv_ldc (v := 65535) hx hb hown k_1 dX7_widthOf_1 ?_
  refine lv_icmp_eq (tgt := 12) hx hb dX7_widthOf_3 (by decide) (fun c_1 => ?_) (fun c_1 => ?_)
  · replace hf := x_ip c_1 hf
    refine lv_iconst (v := 2) hx hb dX7_widthOf_12 (by decide) ?_
    refine lv_goto (tgt := 17) hx hb dX7_widthOf_13 (by decide) ?_
    obtain rfl := Option.some.inj hf
    exact W.iret hx hb hr (fun t ht hW => ⟨⟨_, (), rfl, rfl, trivial⟩, hS.F ht⟩) hS.2.2 dX7_widthOf_17
  · replace hf := x_in c_1 hf
    refine lv_iload_n hx hb dX7_widthOf_6 rfl (lv_at hl 0 rfl) ?_
    refine lv_ldc (v := 65531) hx hb hown k_2 dX7_widthOf_7 ?_
    refine lv_icmp_ne (tgt := 16) hx hb dX7_widthOf_9 (by decide) (fun c_2 => ?_) (fun c_2 => ?_)
    · replace hf := x_in c_2 hf
      refine lv_iconst (v := 1) hx hb dX7_widthOf_16 (by decide) ?_
      obtain rfl := Option.some.inj hf
      exact W.iret hx hb hr (fun t ht hW => ⟨⟨_, (), rfl, rfl, trivial⟩, hS.F ht⟩) hS.2.2 dX7_widthOf_17
    · replace hf := x_ip c_2 hf
      refine lv_iconst (v := 2) hx hb dX7_widthOf_12 (by decide) ?_
      refine lv_goto (tgt := 17) hx hb dX7_widthOf_13 (by decide) ?_
      obtain rfl := Option.some.inj hf
      exact W.iret hx hb hr (fun t ht hW => ⟨⟨_, (), rfl, rfl, trivial⟩, hS.F ht⟩) hS.2.2 dX7_widthOf_17

def f_X7_isClass (v7_2 : Int32) (p1 : Int32) : Option (Int32) := if p1 < (0 : Int32) then some 0 else if v7_2 ≤ p1 then some 0 else some 1
theorem i_X7_isClass_X7 : ∀ w ∈ wsX70, w ∈ wsX7_isClass := fun _ h => List.mem_cons_of_mem _ (List.mem_append_right _ h)
set_option maxHeartbeats 4000000 in
set_option maxRecDepth 100000 in
theorem c_X7_isClass (l : Launch) (dC : Nat → ClassId) (dI : Nat → Nat → Nat) (cyI cyZ cyJ : ClassId) (sz : Nat) (o7 : Nat) (a7_0 : Nat) (a7_1 : Nat) (v7_2 : Int32) (p1 : Int32) (R : Int32) (hf : f_X7_isClass v7_2 p1 = some R) : Met l yX7_isClass wsX7_isClass ({ frames := 0, cells := 0, slots := 0, locals := 0 }) (va_Pc [.ref o7, .int p1] (x_Pre (dC, dI) (x_T cyI cyZ cyJ) [(o7, .inr (7, [.ref a7_0, .ref a7_1, .int v7_2]))] sz)) (va_Qi (fun (r : Int32) (_ : Unit) => r = R ∧ x_nb r) (fun _ _ => True) (x_new sz)) 0 0 (x_new sz) := by
  refine Met.ofW (cc := cX7_isClass) (maxL := 2) (ret := (some .boolean)) (by decide) rfl ?_
  intro p e s m args below meth c s₁ B hml hv
  obtain ⟨rfl, hsz, hP, hK, hN⟩ := hv
  have hx := B.exec
  have hb := B.bytes
  have hr := B.returns
  have hts := atoms_spec (ws := wsX7_isClass) B.pre
  have hown : s.vm.findClass RX7 = some m.cls := findClass_of_methodNamed B.named
  have k_1 := hts (.fieldLink RX7 19 "FlowJudge$Types" "count" "I") (by decide +kernel)
  subst hsz
  have hA : ∀ q : Nat, s.heap.size ≤ q → x_new s.heap.size q := fun _ h => h
  have hS : va_S (x_new s.heap.size) s.heap s.heap [] := va_S.rf
  have hP : va_P (dC, dI) vwCl [(o7, .inr (7, [.ref a7_0, .ref a7_1, .int v7_2]))] s.heap := hP
  have hl := lv_entry ([.ref o7, .int p1]) (n := 2) (Nat.le_of_ble_eq_true rfl)
  rw [lg_entry_eq]
  generalize (lg_sl ([.ref o7, .int p1]) ++ List.replicate (2 - (lg_sl ([.ref o7, .int p1])).length) Slot.unset).toArray = ls at hl ⊢
  have hl : lv_has ls 2 [(0, .ref o7), (1, .int p1)] := hl
  obtain ⟨H, hH⟩ : ∃ z, z = s.heap := ⟨_, rfl⟩
  refine x_here hH ?_
  have hP : va_P (dC, dI) vwCl [(o7, .inr (7, [.ref a7_0, .ref a7_1, .int v7_2]))] H := by rw [hH]; exact hP
  have hS : va_S (x_new s.heap.size) s.heap H [] := by rw [hH]; exact va_S.rf
  clear hH
  obtain ⟨locs, hlo⟩ : ∃ z : List Loc, z = [] := ⟨_, rfl⟩
  refine x_herl hlo ?_
  have hS : va_S (x_new s.heap.size) s.heap H locs := by rw [hlo]; exact hS
  clear hlo
  unfold f_X7_isClass at hf
  refine lv_iload_n hx hb dX7_isClass_0 rfl (lv_at hl 1 rfl) ?_
  refine lv_if_lt (tgt := 16) hx hb dX7_isClass_1 (by decide) (fun c_1 => ?_) (fun c_1 => ?_)
  · replace hf := x_ip c_1 hf
    refine lv_iconst (v := 0) hx hb dX7_isClass_16 (by decide) ?_
    obtain rfl := Option.some.inj hf
    exact W.zret (ty := .boolean) hx hb hr rfl (fun t ht hW => ⟨⟨_, (), rfl, ⟨rfl, rfl⟩, trivial⟩, hS.F ht⟩) hS.2.2 dX7_isClass_17
  · replace hf := x_in c_1 hf
    refine lv_iload_n hx hb dX7_isClass_4 rfl (lv_at hl 1 rfl) ?_
    refine lv_aload_n hx hb dX7_isClass_5 rfl (lv_at hl 0 rfl) ?_
    refine va_get (D := (dC, dI)) (ci := 7) (v := .int v7_2) (C := RX7) (T := TX7) (N := 3) hx hb hts i_X7_isClass_X7 hown hK hP 0 rfl rfl 2 (by decide) k_1 (fun _ h9 => h9) rfl dX7_isClass_6 ?_
    refine lv_icmp_ge (tgt := 16) hx hb dX7_isClass_9 (by decide) (fun c_2 => ?_) (fun c_2 => ?_)
    · replace hf := x_ip c_2 hf
      refine lv_iconst (v := 0) hx hb dX7_isClass_16 (by decide) ?_
      obtain rfl := Option.some.inj hf
      exact W.zret (ty := .boolean) hx hb hr rfl (fun t ht hW => ⟨⟨_, (), rfl, ⟨rfl, rfl⟩, trivial⟩, hS.F ht⟩) hS.2.2 dX7_isClass_17
    · replace hf := x_in c_2 hf
      refine lv_iconst (v := 1) hx hb dX7_isClass_12 (by decide) ?_
      refine lv_goto (tgt := 17) hx hb dX7_isClass_13 (by decide) ?_
      obtain rfl := Option.some.inj hf
      exact W.zret (ty := .boolean) hx hb hr rfl (fun t ht hW => ⟨⟨_, (), rfl, ⟨rfl, rfl⟩, trivial⟩, hS.F ht⟩) hS.2.2 dX7_isClass_17

def f_X7_isType (v7_2 : Int32) (p1 : Int32) : Option (Int32) := if p1 < (0 : Int32) then some 0 else (f_X7_dimensionsOf p1) >>= (fun r_2 => if (255 : Int32) < r_2 then some 0 else if (p1 &&& 65535) < v7_2 then some 1 else if (p1 &&& 65535) < (65528 : Int32) then some 0 else some 1)
theorem i_X7_isType_X7 : ∀ w ∈ wsX70, w ∈ wsX7_isType := fun _ h => List.mem_cons_of_mem _ (List.mem_append_right _ h)
set_option maxHeartbeats 4000000 in
set_option maxRecDepth 100000 in
theorem c_X7_isType (l : Launch) (dC : Nat → ClassId) (dI : Nat → Nat → Nat) (cyI cyZ cyJ : ClassId) (sz : Nat) (o7 : Nat) (a7_0 : Nat) (a7_1 : Nat) (v7_2 : Int32) (p1 : Int32) (R : Int32) (hf : f_X7_isType v7_2 p1 = some R) : Met l yX7_isType wsX7_isType ({ frames := 1, cells := 0, slots := 0, locals := 20 }) (va_Pc [.ref o7, .int p1] (x_Pre (dC, dI) (x_T cyI cyZ cyJ) [(o7, .inr (7, [.ref a7_0, .ref a7_1, .int v7_2]))] sz)) (va_Qi (fun (r : Int32) (_ : Unit) => r = R ∧ x_nb r) (fun _ _ => True) (x_new sz)) 0 0 (x_new sz) := by
  refine Met.ofW (cc := cX7_isType) (maxL := 3) (ret := (some .boolean)) (by decide) rfl ?_
  intro p e s m args below meth c s₁ B hml hv
  obtain ⟨rfl, hsz, hP, hK, hN⟩ := hv
  have hx := B.exec
  have hb := B.bytes
  have hr := B.returns
  have hts := atoms_spec (ws := wsX7_isType) B.pre
  have hown : s.vm.findClass RX7 = some m.cls := findClass_of_methodNamed B.named
  have k_1 := hts (.constant RX7 23 (65535)) (by decide +kernel)
  have k_2 := hts (.fieldLink RX7 19 "FlowJudge$Types" "count" "I") (by decide +kernel)
  have k_3 := hts (.constant RX7 28 (65528)) (by decide +kernel)
  subst hsz
  have hA : ∀ q : Nat, s.heap.size ≤ q → x_new s.heap.size q := fun _ h => h
  have hS : va_S (x_new s.heap.size) s.heap s.heap [] := va_S.rf
  have hP : va_P (dC, dI) vwCl [(o7, .inr (7, [.ref a7_0, .ref a7_1, .int v7_2]))] s.heap := hP
  have hl := lv_entry ([.ref o7, .int p1]) (n := 3) (Nat.le_of_ble_eq_true rfl)
  rw [lg_entry_eq]
  generalize (lg_sl ([.ref o7, .int p1]) ++ List.replicate (3 - (lg_sl ([.ref o7, .int p1])).length) Slot.unset).toArray = ls at hl ⊢
  have hl : lv_has ls 3 [(0, .ref o7), (1, .int p1)] := hl
  obtain ⟨H, hH⟩ : ∃ z, z = s.heap := ⟨_, rfl⟩
  refine x_here hH ?_
  have hP : va_P (dC, dI) vwCl [(o7, .inr (7, [.ref a7_0, .ref a7_1, .int v7_2]))] H := by rw [hH]; exact hP
  have hS : va_S (x_new s.heap.size) s.heap H [] := by rw [hH]; exact va_S.rf
  clear hH
  obtain ⟨locs, hlo⟩ : ∃ z : List Loc, z = [] := ⟨_, rfl⟩
  refine x_herl hlo ?_
  have hS : va_S (x_new s.heap.size) s.heap H locs := by rw [hlo]; exact hS
  clear hlo
  unfold f_X7_isType at hf
  refine lv_iload_n hx hb dX7_isType_0 rfl (lv_at hl 1 rfl) ?_
  refine lv_ldc (v := 65535) hx hb hown k_1 dX7_isType_1 ?_
  refine lv_iand hx hb dX7_isType_3 ?_
  refine lv_istore_n (lv' := [(2, .int (p1 &&& 65535)), (0, .ref o7), (1, .int p1)]) hx hb dX7_isType_4 rfl hl (by decide) rfl (fun ls hl => ?_)
  refine lv_iload_n hx hb dX7_isType_5 rfl (lv_at hl 2 rfl) ?_
  refine lv_if_lt (tgt := 37) hx hb dX7_isType_6 (by decide) (fun c_1 => ?_) (fun c_1 => ?_)
  · replace hf := x_ip c_1 hf
    refine lv_iconst (v := 0) hx hb dX7_isType_37 (by decide) ?_
    obtain rfl := Option.some.inj hf
    exact W.zret (ty := .boolean) hx hb hr rfl (fun t ht hW => ⟨⟨_, (), rfl, ⟨rfl, rfl⟩, trivial⟩, hS.F ht⟩) hS.2.2 dX7_isType_38
  · replace hf := x_in c_1 hf
    refine lv_iload_n hx hb dX7_isType_9 rfl (lv_at hl 2 rfl) ?_
    obtain ⟨r_2, h_2, hf⟩ := x_bi hf
    have hPc := hP.sub (ws' := []) [] rfl
    refine va_calli (va_runS (As := [.int p1]) (rest := []) ⟨hx, hb, hml, hown, hts⟩ (c_X7_dimensionsOf l dC dI cyI cyZ cyJ H.size p1 r_2 h_2) (va_cwS 1 hts gX7_isType_X7_dimensionsOf rfl rfl rfl (by decide +kernel) ⟨Nat.le_of_ble_eq_true rfl, Nat.le_of_ble_eq_true rfl⟩) (x_pS hN hK hPc) rfl rfl hl.1 rfl (lv_room (Nat.le_of_ble_eq_true rfl)) dX7_isType_10 ⟨Nat.le_of_ble_eq_true rfl, Nat.le_of_ble_eq_true rfl⟩) hS x_nA (x_nf hA hS) (fun q_2 u t H1 locs ht hvm hw hB hz1 hk1 hS => ?_)
    have hP := x_kp hP hk1
    clear ht hvm hB hz1 hk1 t u hPc
    generalize H1 = H at hP hS ⊢
    obtain rfl := hw.symm
    refine lv_sipush (v := 255) hx hb dX7_isType_13 (by decide) ?_
    refine lv_icmp_gt (tgt := 37) hx hb dX7_isType_16 (by decide) (fun c_3 => ?_) (fun c_3 => ?_)
    · replace hf := x_ip c_3 hf
      refine lv_iconst (v := 0) hx hb dX7_isType_37 (by decide) ?_
      obtain rfl := Option.some.inj hf
      exact W.zret (ty := .boolean) hx hb hr rfl (fun t ht hW => ⟨⟨_, (), rfl, ⟨rfl, rfl⟩, trivial⟩, hS.F ht⟩) hS.2.2 dX7_isType_38
    · replace hf := x_in c_3 hf
      refine lv_iload_n hx hb dX7_isType_19 rfl (lv_at hl 0 rfl) ?_
      refine lv_aload_n hx hb dX7_isType_20 rfl (lv_at hl 1 rfl) ?_
      refine va_get (D := (dC, dI)) (ci := 7) (v := .int v7_2) (C := RX7) (T := TX7) (N := 3) hx hb hts i_X7_isType_X7 hown hK hP 0 rfl rfl 2 (by decide) k_2 (fun _ h9 => h9) rfl dX7_isType_21 ?_
      refine lv_icmp_lt (tgt := 33) hx hb dX7_isType_24 (by decide) (fun c_4 => ?_) (fun c_4 => ?_)
      · replace hf := x_ip c_4 hf
        refine lv_iconst (v := 1) hx hb dX7_isType_33 (by decide) ?_
        refine lv_goto (tgt := 38) hx hb dX7_isType_34 (by decide) ?_
        obtain rfl := Option.some.inj hf
        exact W.zret (ty := .boolean) hx hb hr rfl (fun t ht hW => ⟨⟨_, (), rfl, ⟨rfl, rfl⟩, trivial⟩, hS.F ht⟩) hS.2.2 dX7_isType_38
      · replace hf := x_in c_4 hf
        refine lv_iload_n hx hb dX7_isType_27 rfl (lv_at hl 0 rfl) ?_
        refine lv_ldc (v := 65528) hx hb hown k_3 dX7_isType_28 ?_
        refine lv_icmp_lt (tgt := 37) hx hb dX7_isType_30 (by decide) (fun c_5 => ?_) (fun c_5 => ?_)
        · replace hf := x_ip c_5 hf
          refine lv_iconst (v := 0) hx hb dX7_isType_37 (by decide) ?_
          obtain rfl := Option.some.inj hf
          exact W.zret (ty := .boolean) hx hb hr rfl (fun t ht hW => ⟨⟨_, (), rfl, ⟨rfl, rfl⟩, trivial⟩, hS.F ht⟩) hS.2.2 dX7_isType_38
        · replace hf := x_in c_5 hf
          refine lv_iconst (v := 1) hx hb dX7_isType_33 (by decide) ?_
          refine lv_goto (tgt := 38) hx hb dX7_isType_34 (by decide) ?_
          obtain rfl := Option.some.inj hf
          exact W.zret (ty := .boolean) hx hb hr rfl (fun t ht hW => ⟨⟨_, (), rfl, ⟨rfl, rfl⟩, trivial⟩, hS.F ht⟩) hS.2.2 dX7_isType_38

def f_X7_isReference (v7_2 : Int32) (p1 : Int32) : Option (Int32) := (f_X7_isType v7_2 p1) >>= (fun r_1 => if r_1 = (0 : Int32) then some 0 else (f_X7_isPrimitive p1) >>= (fun r_3 => if r_3 = (0 : Int32) then some 1 else some 0))
set_option maxHeartbeats 4000000 in
set_option maxRecDepth 100000 in
theorem c_X7_isReference (l : Launch) (dC : Nat → ClassId) (dI : Nat → Nat → Nat) (cyI cyZ cyJ : ClassId) (sz : Nat) (o7 : Nat) (a7_0 : Nat) (a7_1 : Nat) (v7_2 : Int32) (p1 : Int32) (R : Int32) (hf : f_X7_isReference v7_2 p1 = some R) : Met l yX7_isReference wsX7_isReference ({ frames := 2, cells := 0, slots := 0, locals := 42 }) (va_Pc [.ref o7, .int p1] (x_Pre (dC, dI) (x_T cyI cyZ cyJ) [(o7, .inr (7, [.ref a7_0, .ref a7_1, .int v7_2]))] sz)) (va_Qi (fun (r : Int32) (_ : Unit) => r = R ∧ x_nb r) (fun _ _ => True) (x_new sz)) 0 0 (x_new sz) := by
  refine Met.ofW (cc := cX7_isReference) (maxL := 2) (ret := (some .boolean)) (by decide) rfl ?_
  intro p e s m args below meth c s₁ B hml hv
  obtain ⟨rfl, hsz, hP, hK, hN⟩ := hv
  have hx := B.exec
  have hb := B.bytes
  have hr := B.returns
  have hts := atoms_spec (ws := wsX7_isReference) B.pre
  have hown : s.vm.findClass RX7 = some m.cls := findClass_of_methodNamed B.named
  subst hsz
  have hA : ∀ q : Nat, s.heap.size ≤ q → x_new s.heap.size q := fun _ h => h
  have hS : va_S (x_new s.heap.size) s.heap s.heap [] := va_S.rf
  have hP : va_P (dC, dI) vwCl [(o7, .inr (7, [.ref a7_0, .ref a7_1, .int v7_2]))] s.heap := hP
  have hl := lv_entry ([.ref o7, .int p1]) (n := 2) (Nat.le_of_ble_eq_true rfl)
  rw [lg_entry_eq]
  generalize (lg_sl ([.ref o7, .int p1]) ++ List.replicate (2 - (lg_sl ([.ref o7, .int p1])).length) Slot.unset).toArray = ls at hl ⊢
  have hl : lv_has ls 2 [(0, .ref o7), (1, .int p1)] := hl
  obtain ⟨H, hH⟩ : ∃ z, z = s.heap := ⟨_, rfl⟩
  refine x_here hH ?_
  have hP : va_P (dC, dI) vwCl [(o7, .inr (7, [.ref a7_0, .ref a7_1, .int v7_2]))] H := by rw [hH]; exact hP
  have hS : va_S (x_new s.heap.size) s.heap H [] := by rw [hH]; exact va_S.rf
  clear hH
  obtain ⟨locs, hlo⟩ : ∃ z : List Loc, z = [] := ⟨_, rfl⟩
  refine x_herl hlo ?_
  have hS : va_S (x_new s.heap.size) s.heap H locs := by rw [hlo]; exact hS
  clear hlo
  unfold f_X7_isReference at hf
  refine lv_aload_n hx hb dX7_isReference_0 rfl (lv_at hl 0 rfl) ?_
  refine lv_iload_n hx hb dX7_isReference_1 rfl (lv_at hl 1 rfl) ?_
  obtain ⟨r_1, h_1, hf⟩ := x_bi hf
  have hPc := hP.sub (ws' := [(o7, .inr (7, [.ref a7_0, .ref a7_1, .int v7_2]))]) [0] rfl
  refine va_calli (va_runV (As := [.int p1]) (rest := []) ⟨hx, hb, hml, hown, hts⟩ (c_X7_isType l dC dI cyI cyZ cyJ H.size o7 a7_0 a7_1 v7_2 p1 r_1 h_1) (cwV 1 hts gX7_isReference_X7_isType rfl rfl rfl (by decide +kernel) ⟨Nat.le_of_ble_eq_true rfl, Nat.le_of_ble_eq_true rfl⟩) (x_pV hN hK hPc (ci := 7) (q0 := 0) rfl rfl) rfl rfl hl.1 rfl (lv_room (Nat.le_of_ble_eq_true rfl)) dX7_isReference_2 ⟨Nat.le_of_ble_eq_true rfl, Nat.le_of_ble_eq_true rfl⟩) hS x_nA (x_nf hA hS) (fun q_1 u t H1 locs ht hvm hw hB hz1 hk1 hS => ?_)
  have hP := x_kp hP hk1
  clear ht hvm hB hz1 hk1 t u hPc
  generalize H1 = H at hP hS ⊢
  obtain ⟨hw, b_1⟩ := hw
  obtain rfl := hw.symm
  refine lv_if_eq (tgt := 19) hx hb dX7_isReference_5 (by decide) (fun c_2 => ?_) (fun c_2 => ?_)
  · replace hf := x_ip c_2 hf
    refine lv_iconst (v := 0) hx hb dX7_isReference_19 (by decide) ?_
    obtain rfl := Option.some.inj hf
    exact W.zret (ty := .boolean) hx hb hr rfl (fun t ht hW => ⟨⟨_, (), rfl, ⟨rfl, rfl⟩, trivial⟩, hS.F ht⟩) hS.2.2 dX7_isReference_20
  · replace hf := x_in c_2 hf
    refine lv_iload_n hx hb dX7_isReference_8 rfl (lv_at hl 1 rfl) ?_
    obtain ⟨r_3, h_3, hf⟩ := x_bi hf
    have hPc := hP.sub (ws' := []) [] rfl
    refine va_calli (va_runS (As := [.int p1]) (rest := []) ⟨hx, hb, hml, hown, hts⟩ (c_X7_isPrimitive l dC dI cyI cyZ cyJ H.size p1 r_3 h_3) (va_cwS 1 hts gX7_isReference_X7_isPrimitive rfl rfl rfl (by decide +kernel) ⟨Nat.le_of_ble_eq_true rfl, Nat.le_of_ble_eq_true rfl⟩) (x_pS hN hK hPc) rfl rfl hl.1 rfl (lv_room (Nat.le_of_ble_eq_true rfl)) dX7_isReference_9 ⟨Nat.le_of_ble_eq_true rfl, Nat.le_of_ble_eq_true rfl⟩) hS x_nA (x_nf hA hS) (fun q_3 u t H1 locs ht hvm hw hB hz1 hk1 hS => ?_)
    have hP := x_kp hP hk1
    clear ht hvm hB hz1 hk1 t u hPc
    generalize H1 = H at hP hS ⊢
    obtain ⟨hw, b_3⟩ := hw
    obtain rfl := hw.symm
    refine lv_if_ne (tgt := 19) hx hb dX7_isReference_12 (by decide) (fun c_4 => ?_) (fun c_4 => ?_)
    · replace hf := x_in c_4 hf
      refine lv_iconst (v := 0) hx hb dX7_isReference_19 (by decide) ?_
      obtain rfl := Option.some.inj hf
      exact W.zret (ty := .boolean) hx hb hr rfl (fun t ht hW => ⟨⟨_, (), rfl, ⟨rfl, rfl⟩, trivial⟩, hS.F ht⟩) hS.2.2 dX7_isReference_20
    · replace hf := x_ip c_4 hf
      refine lv_iconst (v := 1) hx hb dX7_isReference_15 (by decide) ?_
      refine lv_goto (tgt := 20) hx hb dX7_isReference_16 (by decide) ?_
      obtain rfl := Option.some.inj hf
      exact W.zret (ty := .boolean) hx hb hr rfl (fun t ht hW => ⟨⟨_, (), rfl, ⟨rfl, rfl⟩, trivial⟩, hS.F ht⟩) hS.2.2 dX7_isReference_20

def f_X7_isResult (v7_2 : Int32) (p1 : Int32) : Option (Int32) := if p1 = (-1 : Int32) then some 1 else (f_X7_isType v7_2 p1) >>= (fun r_2 => if r_2 = (0 : Int32) then some 0 else some 1)
set_option maxHeartbeats 4000000 in
set_option maxRecDepth 100000 in
theorem c_X7_isResult (l : Launch) (dC : Nat → ClassId) (dI : Nat → Nat → Nat) (cyI cyZ cyJ : ClassId) (sz : Nat) (o7 : Nat) (a7_0 : Nat) (a7_1 : Nat) (v7_2 : Int32) (p1 : Int32) (R : Int32) (hf : f_X7_isResult v7_2 p1 = some R) : Met l yX7_isResult wsX7_isResult ({ frames := 2, cells := 0, slots := 0, locals := 42 }) (va_Pc [.ref o7, .int p1] (x_Pre (dC, dI) (x_T cyI cyZ cyJ) [(o7, .inr (7, [.ref a7_0, .ref a7_1, .int v7_2]))] sz)) (va_Qi (fun (r : Int32) (_ : Unit) => r = R ∧ x_nb r) (fun _ _ => True) (x_new sz)) 0 0 (x_new sz) := by
  refine Met.ofW (cc := cX7_isResult) (maxL := 2) (ret := (some .boolean)) (by decide) rfl ?_
  intro p e s m args below meth c s₁ B hml hv
  obtain ⟨rfl, hsz, hP, hK, hN⟩ := hv
  have hx := B.exec
  have hb := B.bytes
  have hr := B.returns
  have hts := atoms_spec (ws := wsX7_isResult) B.pre
  have hown : s.vm.findClass RX7 = some m.cls := findClass_of_methodNamed B.named
  subst hsz
  have hA : ∀ q : Nat, s.heap.size ≤ q → x_new s.heap.size q := fun _ h => h
  have hS : va_S (x_new s.heap.size) s.heap s.heap [] := va_S.rf
  have hP : va_P (dC, dI) vwCl [(o7, .inr (7, [.ref a7_0, .ref a7_1, .int v7_2]))] s.heap := hP
  have hl := lv_entry ([.ref o7, .int p1]) (n := 2) (Nat.le_of_ble_eq_true rfl)
  rw [lg_entry_eq]
  generalize (lg_sl ([.ref o7, .int p1]) ++ List.replicate (2 - (lg_sl ([.ref o7, .int p1])).length) Slot.unset).toArray = ls at hl ⊢
  have hl : lv_has ls 2 [(0, .ref o7), (1, .int p1)] := hl
  obtain ⟨H, hH⟩ : ∃ z, z = s.heap := ⟨_, rfl⟩
  refine x_here hH ?_
  have hP : va_P (dC, dI) vwCl [(o7, .inr (7, [.ref a7_0, .ref a7_1, .int v7_2]))] H := by rw [hH]; exact hP
  have hS : va_S (x_new s.heap.size) s.heap H [] := by rw [hH]; exact va_S.rf
  clear hH
  obtain ⟨locs, hlo⟩ : ∃ z : List Loc, z = [] := ⟨_, rfl⟩
  refine x_herl hlo ?_
  have hS : va_S (x_new s.heap.size) s.heap H locs := by rw [hlo]; exact hS
  clear hlo
  unfold f_X7_isResult at hf
  refine lv_iload_n hx hb dX7_isResult_0 rfl (lv_at hl 1 rfl) ?_
  refine lv_iconst (v := (-1)) hx hb dX7_isResult_1 (by decide) ?_
  refine lv_icmp_eq (tgt := 13) hx hb dX7_isResult_2 (by decide) (fun c_1 => ?_) (fun c_1 => ?_)
  · replace hf := x_ip c_1 hf
    refine lv_iconst (v := 1) hx hb dX7_isResult_13 (by decide) ?_
    refine lv_goto (tgt := 18) hx hb dX7_isResult_14 (by decide) ?_
    obtain rfl := Option.some.inj hf
    exact W.zret (ty := .boolean) hx hb hr rfl (fun t ht hW => ⟨⟨_, (), rfl, ⟨rfl, rfl⟩, trivial⟩, hS.F ht⟩) hS.2.2 dX7_isResult_18
  · replace hf := x_in c_1 hf
    refine lv_aload_n hx hb dX7_isResult_5 rfl (lv_at hl 0 rfl) ?_
    refine lv_iload_n hx hb dX7_isResult_6 rfl (lv_at hl 1 rfl) ?_
    obtain ⟨r_2, h_2, hf⟩ := x_bi hf
    have hPc := hP.sub (ws' := [(o7, .inr (7, [.ref a7_0, .ref a7_1, .int v7_2]))]) [0] rfl
    refine va_calli (va_runV (As := [.int p1]) (rest := []) ⟨hx, hb, hml, hown, hts⟩ (c_X7_isType l dC dI cyI cyZ cyJ H.size o7 a7_0 a7_1 v7_2 p1 r_2 h_2) (cwV 1 hts gX7_isResult_X7_isType rfl rfl rfl (by decide +kernel) ⟨Nat.le_of_ble_eq_true rfl, Nat.le_of_ble_eq_true rfl⟩) (x_pV hN hK hPc (ci := 7) (q0 := 0) rfl rfl) rfl rfl hl.1 rfl (lv_room (Nat.le_of_ble_eq_true rfl)) dX7_isResult_7 ⟨Nat.le_of_ble_eq_true rfl, Nat.le_of_ble_eq_true rfl⟩) hS x_nA (x_nf hA hS) (fun q_2 u t H1 locs ht hvm hw hB hz1 hk1 hS => ?_)
    have hP := x_kp hP hk1
    clear ht hvm hB hz1 hk1 t u hPc
    generalize H1 = H at hP hS ⊢
    obtain ⟨hw, b_2⟩ := hw
    obtain rfl := hw.symm
    refine lv_if_eq (tgt := 17) hx hb dX7_isResult_10 (by decide) (fun c_3 => ?_) (fun c_3 => ?_)
    · replace hf := x_ip c_3 hf
      refine lv_iconst (v := 0) hx hb dX7_isResult_17 (by decide) ?_
      obtain rfl := Option.some.inj hf
      exact W.zret (ty := .boolean) hx hb hr rfl (fun t ht hW => ⟨⟨_, (), rfl, ⟨rfl, rfl⟩, trivial⟩, hS.F ht⟩) hS.2.2 dX7_isResult_18
    · replace hf := x_in c_3 hf
      refine lv_iconst (v := 1) hx hb dX7_isResult_13 (by decide) ?_
      refine lv_goto (tgt := 18) hx hb dX7_isResult_14 (by decide) ?_
      obtain rfl := Option.some.inj hf
      exact W.zret (ty := .boolean) hx hb hr rfl (fun t ht hW => ⟨⟨_, (), rfl, ⟨rfl, rfl⟩, trivial⟩, hS.F ht⟩) hS.2.2 dX7_isResult_18

def f_X7_isOfInterface (v7_2 : Int32) (g7_1 : Nat → Int32) (p1 : Int32) : Option (Int32) := if v7_2 ≤ (p1 &&& 65535) then some 0 else if x_gd (p1 &&& 65535) 200 = true then if (g7_1 (Int32.toNatClampNeg (p1 &&& 65535))) = (0 : Int32) then some 0 else some 1 else none
theorem i_X7_isOfInterface_X7 : ∀ w ∈ wsX70, w ∈ wsX7_isOfInterface := fun _ h => List.mem_cons_of_mem _ (List.mem_append_right _ h)
set_option maxHeartbeats 4000000 in
set_option maxRecDepth 100000 in
theorem c_X7_isOfInterface (l : Launch) (dC : Nat → ClassId) (dI : Nat → Nat → Nat) (cyI cyZ cyJ : ClassId) (sz : Nat) (o7 : Nat) (a7_0 : Nat) (a7_1 : Nat) (v7_2 : Int32) (g7_1 : Nat → Int32) (p1 : Int32) (R : Int32) (hf : f_X7_isOfInterface v7_2 g7_1 p1 = some R) : Met l yX7_isOfInterface wsX7_isOfInterface ({ frames := 0, cells := 0, slots := 0, locals := 0 }) (va_Pc [.ref o7, .int p1] (x_Pre (dC, dI) (x_T cyI cyZ cyJ) [(o7, .inr (7, [.ref a7_0, .ref a7_1, .int v7_2])), (a7_1, .inl (cyZ, 200, .inl g7_1))] sz)) (va_Qi (fun (r : Int32) (_ : Unit) => r = R ∧ x_nb r) (fun _ _ => True) (x_new sz)) 0 0 (x_new sz) := by
  refine Met.ofW (cc := cX7_isOfInterface) (maxL := 3) (ret := (some .boolean)) (by decide) rfl ?_
  intro p e s m args below meth c s₁ B hml hv
  obtain ⟨rfl, hsz, hP, hK, hN⟩ := hv
  have hx := B.exec
  have hb := B.bytes
  have hr := B.returns
  have hts := atoms_spec (ws := wsX7_isOfInterface) B.pre
  have hown : s.vm.findClass RX7 = some m.cls := findClass_of_methodNamed B.named
  have k_1 := hts (.constant RX7 23 (65535)) (by decide +kernel)
  have k_2 := hts (.fieldLink RX7 19 "FlowJudge$Types" "count" "I") (by decide +kernel)
  have k_3 := hts (.fieldLink RX7 15 "FlowJudge$Types" "isInterface" "[Z") (by decide +kernel)
  subst hsz
  have hA : ∀ q : Nat, s.heap.size ≤ q → x_new s.heap.size q := fun _ h => h
  have hS : va_S (x_new s.heap.size) s.heap s.heap [] := va_S.rf
  have hP : va_P (dC, dI) vwCl [(o7, .inr (7, [.ref a7_0, .ref a7_1, .int v7_2])), (a7_1, .inl (cyZ, 200, .inl g7_1))] s.heap := hP
  have hl := lv_entry ([.ref o7, .int p1]) (n := 3) (Nat.le_of_ble_eq_true rfl)
  rw [lg_entry_eq]
  generalize (lg_sl ([.ref o7, .int p1]) ++ List.replicate (3 - (lg_sl ([.ref o7, .int p1])).length) Slot.unset).toArray = ls at hl ⊢
  have hl : lv_has ls 3 [(0, .ref o7), (1, .int p1)] := hl
  obtain ⟨H, hH⟩ : ∃ z, z = s.heap := ⟨_, rfl⟩
  refine x_here hH ?_
  have hP : va_P (dC, dI) vwCl [(o7, .inr (7, [.ref a7_0, .ref a7_1, .int v7_2])), (a7_1, .inl (cyZ, 200, .inl g7_1))] H := by rw [hH]; exact hP
  have hS : va_S (x_new s.heap.size) s.heap H [] := by rw [hH]; exact va_S.rf
  clear hH
  obtain ⟨locs, hlo⟩ : ∃ z : List Loc, z = [] := ⟨_, rfl⟩
  refine x_herl hlo ?_
  have hS : va_S (x_new s.heap.size) s.heap H locs := by rw [hlo]; exact hS
  clear hlo
  unfold f_X7_isOfInterface at hf
  refine lv_iload_n hx hb dX7_isOfInterface_0 rfl (lv_at hl 1 rfl) ?_
  refine lv_ldc (v := 65535) hx hb hown k_1 dX7_isOfInterface_1 ?_
  refine lv_iand hx hb dX7_isOfInterface_3 ?_
  refine lv_istore_n (lv' := [(2, .int (p1 &&& 65535)), (0, .ref o7), (1, .int p1)]) hx hb dX7_isOfInterface_4 rfl hl (by decide) rfl (fun ls hl => ?_)
  refine lv_iload_n hx hb dX7_isOfInterface_5 rfl (lv_at hl 0 rfl) ?_
  refine lv_aload_n hx hb dX7_isOfInterface_6 rfl (lv_at hl 1 rfl) ?_
  refine va_get (D := (dC, dI)) (ci := 7) (v := .int v7_2) (C := RX7) (T := TX7) (N := 3) hx hb hts i_X7_isOfInterface_X7 hown hK hP 0 rfl rfl 2 (by decide) k_2 (fun _ h9 => h9) rfl dX7_isOfInterface_7 ?_
  refine lv_icmp_ge (tgt := 26) hx hb dX7_isOfInterface_10 (by decide) (fun c_1 => ?_) (fun c_1 => ?_)
  · replace hf := x_ip c_1 hf
    refine lv_iconst (v := 0) hx hb dX7_isOfInterface_26 (by decide) ?_
    obtain rfl := Option.some.inj hf
    exact W.zret (ty := .boolean) hx hb hr rfl (fun t ht hW => ⟨⟨_, (), rfl, ⟨rfl, rfl⟩, trivial⟩, hS.F ht⟩) hS.2.2 dX7_isOfInterface_27
  · replace hf := x_in c_1 hf
    refine lv_aload_n hx hb dX7_isOfInterface_13 rfl (lv_at hl 1 rfl) ?_
    refine va_get (D := (dC, dI)) (ci := 7) (v := .ref a7_1) (C := RX7) (T := TX7) (N := 3) hx hb hts i_X7_isOfInterface_X7 hown hK hP 0 rfl rfl 1 (by decide) k_3 (fun _ h9 => h9) rfl dX7_isOfInterface_14 ?_
    refine lv_iload_n hx hb dX7_isOfInterface_17 rfl (lv_at hl 0 rfl) ?_
    obtain ⟨g_2, hf⟩ := x_gu hf
    refine va_zald hx hb hK hP 1 1 rfl rfl (x_gdin g_2) dX7_isOfInterface_18 ?_
    refine lv_if_eq (tgt := 26) hx hb dX7_isOfInterface_19 (by decide) (fun c_3 => ?_) (fun c_3 => ?_)
    · replace hf := x_ip c_3 hf
      refine lv_iconst (v := 0) hx hb dX7_isOfInterface_26 (by decide) ?_
      obtain rfl := Option.some.inj hf
      exact W.zret (ty := .boolean) hx hb hr rfl (fun t ht hW => ⟨⟨_, (), rfl, ⟨rfl, rfl⟩, trivial⟩, hS.F ht⟩) hS.2.2 dX7_isOfInterface_27
    · replace hf := x_in c_3 hf
      refine lv_iconst (v := 1) hx hb dX7_isOfInterface_22 (by decide) ?_
      refine lv_goto (tgt := 27) hx hb dX7_isOfInterface_23 (by decide) ?_
      obtain rfl := Option.some.inj hf
      exact W.zret (ty := .boolean) hx hb hr rfl (fun t ht hW => ⟨⟨_, (), rfl, ⟨rfl, rfl⟩, trivial⟩, hS.F ht⟩) hS.2.2 dX7_isOfInterface_27

def f_X7_placeOf (p0 : Int32) : Option (Int32) := (f_X7_isPrimitive p0) >>= (fun r_1 => if r_1 = (0 : Int32) then some (((16 : Int32) * p0) + (8 : Int32)) else if p0 = (65530 : Int32) then some 2 else if p0 = (65531 : Int32) then some 4 else if p0 = (65535 : Int32) then some 3 else some 1)
set_option maxHeartbeats 4000000 in
set_option maxRecDepth 100000 in
theorem c_X7_placeOf (l : Launch) (dC : Nat → ClassId) (dI : Nat → Nat → Nat) (cyI cyZ cyJ : ClassId) (sz : Nat) (p0 : Int32) (R : Int32) (hf : f_X7_placeOf p0 = some R) : Met l yX7_placeOf wsX7_placeOf ({ frames := 1, cells := 0, slots := 0, locals := 20 }) (va_Pc [.int p0] (x_Pre (dC, dI) (x_T cyI cyZ cyJ) [] sz)) (va_Qi (fun (r : Int32) (_ : Unit) => r = R) (fun _ _ => True) (x_new sz)) 0 0 (x_new sz) := by
  refine Met.ofW (cc := cX7_placeOf) (maxL := 1) (ret := (some .int)) (by decide) rfl ?_
  intro p e s m args below meth c s₁ B hml hv
  obtain ⟨rfl, hsz, hP, hK, hN⟩ := hv
  have hx := B.exec
  have hb := B.bytes
  have hr := B.returns
  have hts := atoms_spec (ws := wsX7_placeOf) B.pre
  have hown : s.vm.findClass RX7 = some m.cls := findClass_of_methodNamed B.named
  subst hsz
  have hA : ∀ q : Nat, s.heap.size ≤ q → x_new s.heap.size q := fun _ h => h
  have hS : va_S (x_new s.heap.size) s.heap s.heap [] := va_S.rf
  have hP : va_P (dC, dI) vwCl [] s.heap := hP
  have hl := lv_entry ([.int p0]) (n := 1) (Nat.le_of_ble_eq_true rfl)
  rw [lg_entry_eq]
  generalize (lg_sl ([.int p0]) ++ List.replicate (1 - (lg_sl ([.int p0])).length) Slot.unset).toArray = ls at hl ⊢
  have hl : lv_has ls 1 [(0, .int p0)] := hl
  obtain ⟨H, hH⟩ : ∃ z, z = s.heap := ⟨_, rfl⟩
  refine x_here hH ?_
  have hP : va_P (dC, dI) vwCl [] H := by rw [hH]; exact hP
  have hS : va_S (x_new s.heap.size) s.heap H [] := by rw [hH]; exact va_S.rf
  clear hH
  obtain ⟨locs, hlo⟩ : ∃ z : List Loc, z = [] := ⟨_, rfl⟩
  refine x_herl hlo ?_
  have hS : va_S (x_new s.heap.size) s.heap H locs := by rw [hlo]; exact hS
  clear hlo
  unfold f_X7_placeOf at hf
  refine lv_iload_n hx hb dX7_placeOf_0 rfl (lv_at hl 0 rfl) ?_
  obtain ⟨r_1, h_1, hf⟩ := x_bi hf
  have hPc := hP.sub (ws' := []) [] rfl
  refine va_calli (va_runS (As := [.int p0]) (rest := []) ⟨hx, hb, hml, hown, hts⟩ (c_X7_isPrimitive l dC dI cyI cyZ cyJ H.size p0 r_1 h_1) (va_cwS 1 hts gX7_placeOf_X7_isPrimitive rfl rfl rfl (by decide +kernel) ⟨Nat.le_of_ble_eq_true rfl, Nat.le_of_ble_eq_true rfl⟩) (x_pS hN hK hPc) rfl rfl hl.1 rfl (lv_room (Nat.le_of_ble_eq_true rfl)) dX7_placeOf_1 ⟨Nat.le_of_ble_eq_true rfl, Nat.le_of_ble_eq_true rfl⟩) hS x_nA (x_nf hA hS) (fun q_1 u t H1 locs ht hvm hw hB hz1 hk1 hS => ?_)
  have hP := x_kp hP hk1
  clear ht hvm hB hz1 hk1 t u hPc
  generalize H1 = H at hP hS ⊢
  obtain ⟨hw, b_1⟩ := hw
  obtain rfl := hw.symm
  refine lv_if_ne (tgt := 15) hx hb dX7_placeOf_4 (by decide) (fun c_2 => ?_) (fun c_2 => ?_)
  · replace hf := x_in c_2 hf
    refine lv_iload_n hx hb dX7_placeOf_15 rfl (lv_at hl 0 rfl) ?_
    rcases Classical.em (p0 = 65530) with c_3 | c_3
    · refine lv_lookup (off := 36) (tgt := 52) hx hb dX7_placeOf_16 (by decide) (by rw [c_3]; decide) (by decide) ?_
      replace hf := x_ip c_3 hf
      refine lv_iconst (v := 2) hx hb dX7_placeOf_52 (by decide) ?_
      obtain rfl := Option.some.inj hf
      exact W.iret hx hb hr (fun t ht hW => ⟨⟨_, (), rfl, rfl, trivial⟩, hS.F ht⟩) hS.2.2 dX7_placeOf_53
    replace hf := x_in c_3 hf
    rcases Classical.em (p0 = 65531) with c_4 | c_4
    · refine lv_lookup (off := 38) (tgt := 54) hx hb dX7_placeOf_16 (by decide) (by rw [c_4]; decide) (by decide) ?_
      replace hf := x_ip c_4 hf
      refine lv_iconst (v := 4) hx hb dX7_placeOf_54 (by decide) ?_
      obtain rfl := Option.some.inj hf
      exact W.iret hx hb hr (fun t ht hW => ⟨⟨_, (), rfl, rfl, trivial⟩, hS.F ht⟩) hS.2.2 dX7_placeOf_55
    replace hf := x_in c_4 hf
    rcases Classical.em (p0 = 65535) with c_5 | c_5
    · refine lv_lookup (off := 40) (tgt := 56) hx hb dX7_placeOf_16 (by decide) (by rw [c_5]; decide) (by decide) ?_
      replace hf := x_ip c_5 hf
      refine lv_iconst (v := 3) hx hb dX7_placeOf_56 (by decide) ?_
      obtain rfl := Option.some.inj hf
      exact W.iret hx hb hr (fun t ht hW => ⟨⟨_, (), rfl, rfl, trivial⟩, hS.F ht⟩) hS.2.2 dX7_placeOf_57
    replace hf := x_in c_5 hf
    refine lv_lookup (off := 42) (tgt := 58) hx hb dX7_placeOf_16 (by decide) ((lv_osw (k := 65530) c_3 (by decide)).trans ((lv_osw (k := 65531) c_4 (by decide)).trans ((lv_osw (k := 65535) c_5 (by decide)).trans rfl))) (by decide) ?_
    refine lv_iconst (v := 1) hx hb dX7_placeOf_58 (by decide) ?_
    obtain rfl := Option.some.inj hf
    exact W.iret hx hb hr (fun t ht hW => ⟨⟨_, (), rfl, rfl, trivial⟩, hS.F ht⟩) hS.2.2 dX7_placeOf_59
  · replace hf := x_ip c_2 hf
    refine lv_bipush (v := 16) hx hb dX7_placeOf_7 (by decide) ?_
    refine lv_iload_n hx hb dX7_placeOf_9 rfl (lv_at hl 0 rfl) ?_
    refine lv_imul hx hb dX7_placeOf_10 ?_
    refine lv_bipush (v := 8) hx hb dX7_placeOf_11 (by decide) ?_
    refine lv_iadd hx hb dX7_placeOf_13 ?_
    obtain rfl := Option.some.inj hf
    exact W.iret hx hb hr (fun t ht hW => ⟨⟨_, (), rfl, rfl, trivial⟩, hS.F ht⟩) hS.2.2 dX7_placeOf_14

def f_X7_enter (v7_2 : Int32) (g7_0 : Nat → Int32) (g7_1 : Nat → Int32) (p1 : Int32) (p2 : Int32) : Option (Int32 × Int32 × (Nat → Int32) × (Nat → Int32)) := if x_gd v7_2 200 = true then if x_gd v7_2 200 = true then some (v7_2, v7_2 + (1 : Int32), upd g7_0 (Int32.toNatClampNeg v7_2) p1, upd g7_1 (Int32.toNatClampNeg v7_2) (vp_nar .boolean p2)) else none else none
theorem i_X7_enter_X7 : ∀ w ∈ wsX70, w ∈ wsX7_enter := fun _ h => List.mem_cons_of_mem _ (List.mem_append_right _ h)
set_option maxHeartbeats 4000000 in
set_option maxRecDepth 100000 in
theorem c_X7_enter (l : Launch) (dC : Nat → ClassId) (dI : Nat → Nat → Nat) (cyI cyZ cyJ : ClassId) (sz : Nat) (o7 : Nat) (a7_0 : Nat) (a7_1 : Nat) (v7_2 : Int32) (g7_0 : Nat → Int32) (g7_1 : Nat → Int32) (p1 : Int32) (p2 : Int32) (R : Int32 × Int32 × (Nat → Int32) × (Nat → Int32)) (hf : f_X7_enter v7_2 g7_0 g7_1 p1 p2 = some R) : Met l yX7_enter wsX7_enter ({ frames := 0, cells := 0, slots := 0, locals := 0 }) (va_Pc [.ref o7, .int p1, .int p2] (x_PreD (dC, dI) (x_T cyI cyZ cyJ) [(o7, .inr (7, [.ref a7_0, .ref a7_1, .int v7_2])), (a7_0, .inl (cyI, 200, .inl g7_0)), (a7_1, .inl (cyZ, 200, .inl g7_1))] sz)) (va_Qi (fun (r : Int32) (_ : Unit) => r = R.1) (fun (_ : Unit) (t : State) => va_P (dC, dI) vwCl [(o7, .inr (7, [.ref a7_0, .ref a7_1, .int (R.2.1)])), (a7_0, .inl (cyI, 200, .inl R.2.2.1)), (a7_1, .inl (cyZ, 200, .inl R.2.2.2))] t.heap ∧ va_K (dC, dI) vwCl (x_T cyI cyZ cyJ) t ∧ va_D (va_A [(o7, .inr (7, [.ref a7_0, .ref a7_1, .int v7_2])), (a7_0, .inl (cyI, 200, .inl g7_0)), (a7_1, .inl (cyZ, 200, .inl g7_1))] sz) [(o7, .inr (7, [.ref a7_0, .ref a7_1, .int (R.2.1)])), (a7_0, .inl (cyI, 200, .inl R.2.2.1)), (a7_1, .inl (cyZ, 200, .inl R.2.2.2))]) (va_A [(o7, .inr (7, [.ref a7_0, .ref a7_1, .int v7_2])), (a7_0, .inl (cyI, 200, .inl g7_0)), (a7_1, .inl (cyZ, 200, .inl g7_1))] sz)) 0 0 (va_A [(o7, .inr (7, [.ref a7_0, .ref a7_1, .int v7_2])), (a7_0, .inl (cyI, 200, .inl g7_0)), (a7_1, .inl (cyZ, 200, .inl g7_1))] sz) := by
  refine Met.ofW (cc := cX7_enter) (maxL := 3) (ret := (some .int)) (by decide) rfl ?_
  intro p e s m args below meth c s₁ B hml hv
  obtain ⟨rfl, ⟨hsz, hP, hK, hN⟩, hD0⟩ := hv
  have hx := B.exec
  have hb := B.bytes
  have hr := B.returns
  have hts := atoms_spec (ws := wsX7_enter) B.pre
  have hown : s.vm.findClass RX7 = some m.cls := findClass_of_methodNamed B.named
  have k_1 := hts (.fieldLink RX7 9 "FlowJudge$Types" "above" "[I") (by decide +kernel)
  have k_2 := hts (.fieldLink RX7 19 "FlowJudge$Types" "count" "I") (by decide +kernel)
  have k_3 := hts (.fieldLink RX7 15 "FlowJudge$Types" "isInterface" "[Z") (by decide +kernel)
  subst hsz
  have hD := hD0.self (sz := s.heap.size)
  generalize hAe : va_A [(o7, .inr (7, [.ref a7_0, .ref a7_1, .int v7_2])), (a7_0, .inl (cyI, 200, .inl g7_0)), (a7_1, .inl (cyZ, 200, .inl g7_1))] s.heap.size = A at hD ⊢
  have hA : ∀ q : Nat, s.heap.size ≤ q → A q := fun q h => by rw [← hAe]; exact Or.inr h
  have hP : va_P (dC, dI) vwCl [(o7, .inr (7, [.ref a7_0, .ref a7_1, .int v7_2])), (a7_0, .inl (cyI, 200, .inl g7_0)), (a7_1, .inl (cyZ, 200, .inl g7_1))] s.heap := hP
  have hl := lv_entry ([.ref o7, .int p1, .int p2]) (n := 3) (Nat.le_of_ble_eq_true rfl)
  rw [lg_entry_eq]
  generalize (lg_sl ([.ref o7, .int p1, .int p2]) ++ List.replicate (3 - (lg_sl ([.ref o7, .int p1, .int p2])).length) Slot.unset).toArray = ls at hl ⊢
  have hl : lv_has ls 3 [(0, .ref o7), (1, .int p1), (2, .int p2)] := hl
  obtain ⟨H, hH⟩ : ∃ z, z = s.heap := ⟨_, rfl⟩
  refine x_here hH ?_
  have hP : va_P (dC, dI) vwCl [(o7, .inr (7, [.ref a7_0, .ref a7_1, .int v7_2])), (a7_0, .inl (cyI, 200, .inl g7_0)), (a7_1, .inl (cyZ, 200, .inl g7_1))] H := by rw [hH]; exact hP
  have hS : va_S A s.heap H [] := by rw [hH]; exact va_S.rf
  clear hH
  obtain ⟨locs, hlo⟩ : ∃ z : List Loc, z = [] := ⟨_, rfl⟩
  refine x_herl hlo ?_
  have hS : va_S A s.heap H locs := by rw [hlo]; exact hS
  clear hlo
  unfold f_X7_enter at hf
  refine lv_aload_n hx hb dX7_enter_0 rfl (lv_at hl 0 rfl) ?_
  refine va_get (D := (dC, dI)) (ci := 7) (v := .ref a7_0) (C := RX7) (T := TX7) (N := 3) hx hb hts i_X7_enter_X7 hown hK hP 0 rfl rfl 0 (by decide) k_1 (fun _ h9 => h9) rfl dX7_enter_1 ?_
  refine lv_aload_n hx hb dX7_enter_4 rfl (lv_at hl 0 rfl) ?_
  refine va_get (D := (dC, dI)) (ci := 7) (v := .int v7_2) (C := RX7) (T := TX7) (N := 3) hx hb hts i_X7_enter_X7 hown hK hP 0 rfl rfl 2 (by decide) k_2 (fun _ h9 => h9) rfl dX7_enter_5 ?_
  refine lv_iload_n hx hb dX7_enter_8 rfl (lv_at hl 1 rfl) ?_
  obtain ⟨g_1, hf⟩ := x_gu hf
  refine va_iast hx hb hK hP hD hS 1 0 rfl rfl (x_gdin g_1) dX7_enter_9 (fun H locs hP hD hS => ?_)
  have hP : va_P (dC, dI) vwCl [(o7, .inr (7, [.ref a7_0, .ref a7_1, .int v7_2])), (a7_0, .inl (cyI, 200, .inl (upd g7_0 (Int32.toNatClampNeg v7_2) p1))), (a7_1, .inl (cyZ, 200, .inl g7_1))] H := hP
  have hD : va_D A [(o7, .inr (7, [.ref a7_0, .ref a7_1, .int v7_2])), (a7_0, .inl (cyI, 200, .inl (upd g7_0 (Int32.toNatClampNeg v7_2) p1))), (a7_1, .inl (cyZ, 200, .inl g7_1))] := hD
  refine lv_aload_n hx hb dX7_enter_10 rfl (lv_at hl 0 rfl) ?_
  refine va_get (D := (dC, dI)) (ci := 7) (v := .ref a7_1) (C := RX7) (T := TX7) (N := 3) hx hb hts i_X7_enter_X7 hown hK hP 0 rfl rfl 1 (by decide) k_3 (fun _ h9 => h9) rfl dX7_enter_11 ?_
  refine lv_aload_n hx hb dX7_enter_14 rfl (lv_at hl 0 rfl) ?_
  refine va_get (D := (dC, dI)) (ci := 7) (v := .int v7_2) (C := RX7) (T := TX7) (N := 3) hx hb hts i_X7_enter_X7 hown hK hP 0 rfl rfl 2 (by decide) k_2 (fun _ h9 => h9) rfl dX7_enter_15 ?_
  refine lv_iload_n hx hb dX7_enter_18 rfl (lv_at hl 2 rfl) ?_
  obtain ⟨g_2, hf⟩ := x_gu hf
  refine va_zast hx hb hK hP hD hS 2 1 rfl rfl (x_gdin g_2) dX7_enter_19 (fun H locs hP hD hS => ?_)
  have hP : va_P (dC, dI) vwCl [(o7, .inr (7, [.ref a7_0, .ref a7_1, .int v7_2])), (a7_0, .inl (cyI, 200, .inl (upd g7_0 (Int32.toNatClampNeg v7_2) p1))), (a7_1, .inl (cyZ, 200, .inl (upd g7_1 (Int32.toNatClampNeg v7_2) (vp_nar .boolean p2))))] H := hP
  have hD : va_D A [(o7, .inr (7, [.ref a7_0, .ref a7_1, .int v7_2])), (a7_0, .inl (cyI, 200, .inl (upd g7_0 (Int32.toNatClampNeg v7_2) p1))), (a7_1, .inl (cyZ, 200, .inl (upd g7_1 (Int32.toNatClampNeg v7_2) (vp_nar .boolean p2))))] := hD
  refine lv_aload_n hx hb dX7_enter_20 rfl (lv_at hl 0 rfl) ?_
  refine lv_dup hx hb dX7_enter_21 rfl ?_
  refine va_get (D := (dC, dI)) (ci := 7) (v := .int v7_2) (C := RX7) (T := TX7) (N := 3) hx hb hts i_X7_enter_X7 hown hK hP 0 rfl rfl 2 (by decide) k_2 (fun _ h9 => h9) rfl dX7_enter_22 ?_
  refine lv_dup_x1 hx hb dX7_enter_25 rfl rfl ?_
  refine lv_iconst (v := 1) hx hb dX7_enter_26 (by decide) ?_
  refine lv_iadd hx hb dX7_enter_27 ?_
  refine va_put (D := (dC, dI)) (ci := 7) (v := .int (v7_2 + (1 : Int32))) (ty := .int) (C := RX7) (T := TX7) (N := 3) hx hb hts i_X7_enter_X7 tyX7 tyX7_ok nmX7 hown hK hP hD hS 0 rfl rfl 2 (by decide) k_2 (fun _ h9 => h9) rfl (by decide +kernel) rfl rfl (Nat.le_of_ble_eq_true rfl) dX7_enter_28 (fun H locs hP hD hS => ?_)
  have hP : va_P (dC, dI) vwCl [(o7, .inr (7, [.ref a7_0, .ref a7_1, .int (v7_2 + (1 : Int32))])), (a7_0, .inl (cyI, 200, .inl (upd g7_0 (Int32.toNatClampNeg v7_2) p1))), (a7_1, .inl (cyZ, 200, .inl (upd g7_1 (Int32.toNatClampNeg v7_2) (vp_nar .boolean p2))))] H := hP
  have hD : va_D A [(o7, .inr (7, [.ref a7_0, .ref a7_1, .int (v7_2 + (1 : Int32))])), (a7_0, .inl (cyI, 200, .inl (upd g7_0 (Int32.toNatClampNeg v7_2) p1))), (a7_1, .inl (cyZ, 200, .inl (upd g7_1 (Int32.toNatClampNeg v7_2) (vp_nar .boolean p2))))] := hD
  obtain rfl := Option.some.inj hf
  have hP9 := hP.sub (ws' := [(o7, .inr (7, [.ref a7_0, .ref a7_1, .int (v7_2 + (1 : Int32))])), (a7_0, .inl (cyI, 200, .inl (upd g7_0 (Int32.toNatClampNeg v7_2) p1))), (a7_1, .inl (cyZ, 200, .inl (upd g7_1 (Int32.toNatClampNeg v7_2) (vp_nar .boolean p2))))]) [0, 1, 2] rfl
  have hD9 := hD.sub (ws' := [(o7, .inr (7, [.ref a7_0, .ref a7_1, .int (v7_2 + (1 : Int32))])), (a7_0, .inl (cyI, 200, .inl (upd g7_0 (Int32.toNatClampNeg v7_2) p1))), (a7_1, .inl (cyZ, 200, .inl (upd g7_1 (Int32.toNatClampNeg v7_2) (vp_nar .boolean p2))))]) [0, 1, 2] (by decide) rfl
  exact W.iret hx hb hr (fun t ht hW => ⟨⟨_, (), rfl, rfl, by rw [ht]; exact hP9, va_K.moved hW.alike hK, hD9⟩, hS.F ht⟩) hS.2.2 dX7_enter_31

def f_X7_mayClassStand_L (v7_2 : Int32) (g7_0 : Nat → Int32) (g7_1 : Nat → Int32) (l2 : Int32) (z : Nat × Int32 × Int32) : Option (Int32) := match z with
  | (q, l3, l4) => if q = 0 then if (200 : Int32) ≤ l4 then if l3 = l2 then some 1 else some 0 else if l3 ≤ l2 then if l3 = l2 then some 1 else some 0 else if x_gd l3 200 = true then (f_X7_mayClassStand_L v7_2 g7_0 g7_1 l2 (0, g7_0 (Int32.toNatClampNeg l3), l4 + 1)) else none else none
partial_fixpoint
def f_X7_mayClassStand (v7_2 : Int32) (g7_0 : Nat → Int32) (g7_1 : Nat → Int32) (p1 : Int32) (p2 : Int32) : Option (Int32) := if v7_2 ≤ p1 then some 0 else if p2 < v7_2 then if p2 = (0 : Int32) then some 1 else if x_gd p2 200 = true then if (g7_1 (Int32.toNatClampNeg p2)) = (0 : Int32) then (f_X7_mayClassStand_L v7_2 g7_0 g7_1 p2 (0, p1, 0)) else some 1 else none else some 0
theorem i_X7_mayClassStand_X7 : ∀ w ∈ wsX70, w ∈ wsX7_mayClassStand := fun _ h => List.mem_cons_of_mem _ (List.mem_append_right _ h)
set_option maxHeartbeats 4000000 in
set_option maxRecDepth 100000 in
theorem c_X7_mayClassStand (l : Launch) (dC : Nat → ClassId) (dI : Nat → Nat → Nat) (cyI cyZ cyJ : ClassId) (sz : Nat) (o7 : Nat) (a7_0 : Nat) (a7_1 : Nat) (v7_2 : Int32) (g7_0 : Nat → Int32) (g7_1 : Nat → Int32) (p1 : Int32) (p2 : Int32) (R : Int32) (hf : f_X7_mayClassStand v7_2 g7_0 g7_1 p1 p2 = some R) : Met l yX7_mayClassStand wsX7_mayClassStand ({ frames := 0, cells := 0, slots := 0, locals := 0 }) (va_Pc [.ref o7, .int p1, .int p2] (x_Pre (dC, dI) (x_T cyI cyZ cyJ) [(o7, .inr (7, [.ref a7_0, .ref a7_1, .int v7_2])), (a7_0, .inl (cyI, 200, .inl g7_0)), (a7_1, .inl (cyZ, 200, .inl g7_1))] sz)) (va_Qi (fun (r : Int32) (_ : Unit) => r = R ∧ x_nb r) (fun _ _ => True) (x_new sz)) 0 0 (x_new sz) := by
  refine Met.ofW (cc := cX7_mayClassStand) (maxL := 5) (ret := (some .boolean)) (by decide) rfl ?_
  intro p e s m args below meth c s₁ B hml hv
  obtain ⟨rfl, hsz, hP, hK, hN⟩ := hv
  have hx := B.exec
  have hb := B.bytes
  have hr := B.returns
  have hts := atoms_spec (ws := wsX7_mayClassStand) B.pre
  have hown : s.vm.findClass RX7 = some m.cls := findClass_of_methodNamed B.named
  have k_1 := hts (.fieldLink RX7 9 "FlowJudge$Types" "above" "[I") (by decide +kernel)
  have k_2 := hts (.fieldLink RX7 19 "FlowJudge$Types" "count" "I") (by decide +kernel)
  have k_3 := hts (.fieldLink RX7 15 "FlowJudge$Types" "isInterface" "[Z") (by decide +kernel)
  subst hsz
  have hA : ∀ q : Nat, s.heap.size ≤ q → x_new s.heap.size q := fun _ h => h
  have hS : va_S (x_new s.heap.size) s.heap s.heap [] := va_S.rf
  have hP : va_P (dC, dI) vwCl [(o7, .inr (7, [.ref a7_0, .ref a7_1, .int v7_2])), (a7_0, .inl (cyI, 200, .inl g7_0)), (a7_1, .inl (cyZ, 200, .inl g7_1))] s.heap := hP
  have hl := lv_entry ([.ref o7, .int p1, .int p2]) (n := 5) (Nat.le_of_ble_eq_true rfl)
  rw [lg_entry_eq]
  generalize (lg_sl ([.ref o7, .int p1, .int p2]) ++ List.replicate (5 - (lg_sl ([.ref o7, .int p1, .int p2])).length) Slot.unset).toArray = ls at hl ⊢
  have hl : lv_has ls 5 [(0, .ref o7), (1, .int p1), (2, .int p2)] := hl
  obtain ⟨H, hH⟩ : ∃ z, z = s.heap := ⟨_, rfl⟩
  refine x_here hH ?_
  have hP : va_P (dC, dI) vwCl [(o7, .inr (7, [.ref a7_0, .ref a7_1, .int v7_2])), (a7_0, .inl (cyI, 200, .inl g7_0)), (a7_1, .inl (cyZ, 200, .inl g7_1))] H := by rw [hH]; exact hP
  have hS : va_S (x_new s.heap.size) s.heap H [] := by rw [hH]; exact va_S.rf
  clear hH
  obtain ⟨locs, hlo⟩ : ∃ z : List Loc, z = [] := ⟨_, rfl⟩
  refine x_herl hlo ?_
  have hS : va_S (x_new s.heap.size) s.heap H locs := by rw [hlo]; exact hS
  clear hlo
  unfold f_X7_mayClassStand at hf
  refine x_wn (fun WW hWW => ?_)
  have J := fun (l2 : Int32) => f_X7_mayClassStand_L.partial_correctness v7_2 g7_0 g7_1 l2 (fun (z : Nat × Int32 × Int32) (r : Int32) => r = R → ∀ (q : Nat) (l3 : Int32) (l4 : Int32), z = (q, l3, l4) → ((q = 0 → ∀ (H : Heap) (locs : List Loc) (ls : Array Slot), va_P (dC, dI) vwCl [(o7, .inr (7, [.ref a7_0, .ref a7_1, .int v7_2])), (a7_0, .inl (cyI, 200, .inl g7_0)), (a7_1, .inl (cyZ, 200, .inl g7_1))] H → va_S (x_new s.heap.size) s.heap H locs → lv_has ls 5 [(0, .ref o7), (2, .int l2), (3, .int l3), (4, .int l4)] → WW H locs 0 0 (F0 m 38 ls [])))) (by
    intro F ih z r hf hr q l3 l4 hz
    subst hz
    obtain rfl := hr
    · intro hq H locs ls hP hS hl
      subst hq
      refine (hWW _ _ _ _ _).mp ?_
      replace hf := x_ip rfl hf
      refine lv_iload hx hb dX7_mayClassStand_38 (lv_at hl 3 rfl) ?_
      refine lv_sipush (v := 200) hx hb dX7_mayClassStand_40 (by decide) ?_
      refine lv_icmp_ge (tgt := 64) hx hb dX7_mayClassStand_43 (by decide) (fun c_1 => ?_) (fun c_1 => ?_)
      · replace hf := x_ip c_1 hf
        refine lv_iload_n hx hb dX7_mayClassStand_64 rfl (lv_at hl 2 rfl) ?_
        refine lv_iload_n hx hb dX7_mayClassStand_65 rfl (lv_at hl 1 rfl) ?_
        refine lv_icmp_ne (tgt := 73) hx hb dX7_mayClassStand_66 (by decide) (fun c_2 => ?_) (fun c_2 => ?_)
        · replace hf := x_in c_2 hf
          refine lv_iconst (v := 0) hx hb dX7_mayClassStand_73 (by decide) ?_
          obtain rfl := Option.some.inj hf
          exact W.zret (ty := .boolean) hx hb hr rfl (fun t ht hW => ⟨⟨_, (), rfl, ⟨rfl, rfl⟩, trivial⟩, hS.F ht⟩) hS.2.2 dX7_mayClassStand_74
        · replace hf := x_ip c_2 hf
          refine lv_iconst (v := 1) hx hb dX7_mayClassStand_69 (by decide) ?_
          refine lv_goto (tgt := 74) hx hb dX7_mayClassStand_70 (by decide) ?_
          obtain rfl := Option.some.inj hf
          exact W.zret (ty := .boolean) hx hb hr rfl (fun t ht hW => ⟨⟨_, (), rfl, ⟨rfl, rfl⟩, trivial⟩, hS.F ht⟩) hS.2.2 dX7_mayClassStand_74
      · replace hf := x_in c_1 hf
        refine lv_iload_n hx hb dX7_mayClassStand_46 rfl (lv_at hl 2 rfl) ?_
        refine lv_iload_n hx hb dX7_mayClassStand_47 rfl (lv_at hl 1 rfl) ?_
        refine lv_icmp_le (tgt := 64) hx hb dX7_mayClassStand_48 (by decide) (fun c_3 => ?_) (fun c_3 => ?_)
        · replace hf := x_ip c_3 hf
          refine lv_iload_n hx hb dX7_mayClassStand_64 rfl (lv_at hl 2 rfl) ?_
          refine lv_iload_n hx hb dX7_mayClassStand_65 rfl (lv_at hl 1 rfl) ?_
          refine lv_icmp_ne (tgt := 73) hx hb dX7_mayClassStand_66 (by decide) (fun c_4 => ?_) (fun c_4 => ?_)
          · replace hf := x_in c_4 hf
            refine lv_iconst (v := 0) hx hb dX7_mayClassStand_73 (by decide) ?_
            obtain rfl := Option.some.inj hf
            exact W.zret (ty := .boolean) hx hb hr rfl (fun t ht hW => ⟨⟨_, (), rfl, ⟨rfl, rfl⟩, trivial⟩, hS.F ht⟩) hS.2.2 dX7_mayClassStand_74
          · replace hf := x_ip c_4 hf
            refine lv_iconst (v := 1) hx hb dX7_mayClassStand_69 (by decide) ?_
            refine lv_goto (tgt := 74) hx hb dX7_mayClassStand_70 (by decide) ?_
            obtain rfl := Option.some.inj hf
            exact W.zret (ty := .boolean) hx hb hr rfl (fun t ht hW => ⟨⟨_, (), rfl, ⟨rfl, rfl⟩, trivial⟩, hS.F ht⟩) hS.2.2 dX7_mayClassStand_74
        · replace hf := x_in c_3 hf
          refine lv_aload_n hx hb dX7_mayClassStand_51 rfl (lv_at hl 0 rfl) ?_
          refine va_get (D := (dC, dI)) (ci := 7) (v := .ref a7_0) (C := RX7) (T := TX7) (N := 3) hx hb hts i_X7_mayClassStand_X7 hown hK hP 0 rfl rfl 0 (by decide) k_1 (fun _ h9 => h9) rfl dX7_mayClassStand_52 ?_
          refine lv_iload_n hx hb dX7_mayClassStand_55 rfl (lv_at hl 2 rfl) ?_
          obtain ⟨g_5, hf⟩ := x_gu hf
          refine va_iald hx hb hK hP 1 0 rfl rfl (x_gdin g_5) dX7_mayClassStand_56 ?_
          refine lv_istore_n (lv' := [(3, .int (g7_0 (Int32.toNatClampNeg l3))), (0, .ref o7), (2, .int l2), (4, .int l4)]) hx hb dX7_mayClassStand_57 rfl hl (by decide) rfl (fun ls hl => ?_)
          refine lv_iinc (v := (l4 + 1)) (lv' := [(4, .int (l4 + 1)), (3, .int (g7_0 (Int32.toNatClampNeg l3))), (0, .ref o7), (2, .int l2)]) hx hb dX7_mayClassStand_58 hl (k := 3) rfl rfl (by decide) rfl (fun ls hl => ?_)
          refine lv_goto (tgt := 38) hx hb dX7_mayClassStand_61 (by decide) ?_
          exact (hWW _ _ _ _ _).mpr ((ih (0, g7_0 (Int32.toNatClampNeg l3), l4 + 1) _ hf rfl _ _ _ rfl) rfl H locs ls hP hS (lv_sub hl [2, 3, 1, 0] rfl)))
  refine lv_iload_n hx hb dX7_mayClassStand_0 rfl (lv_at hl 1 rfl) ?_
  refine lv_aload_n hx hb dX7_mayClassStand_1 rfl (lv_at hl 0 rfl) ?_
  refine va_get (D := (dC, dI)) (ci := 7) (v := .int v7_2) (C := RX7) (T := TX7) (N := 3) hx hb hts i_X7_mayClassStand_X7 hown hK hP 0 rfl rfl 2 (by decide) k_2 (fun _ h9 => h9) rfl dX7_mayClassStand_2 ?_
  refine lv_icmp_ge (tgt := 16) hx hb dX7_mayClassStand_5 (by decide) (fun c_6 => ?_) (fun c_6 => ?_)
  · replace hf := x_ip c_6 hf
    refine lv_iconst (v := 0) hx hb dX7_mayClassStand_16 (by decide) ?_
    obtain rfl := Option.some.inj hf
    exact W.zret (ty := .boolean) hx hb hr rfl (fun t ht hW => ⟨⟨_, (), rfl, ⟨rfl, rfl⟩, trivial⟩, hS.F ht⟩) hS.2.2 dX7_mayClassStand_17
  · replace hf := x_in c_6 hf
    refine lv_iload_n hx hb dX7_mayClassStand_8 rfl (lv_at hl 2 rfl) ?_
    refine lv_aload_n hx hb dX7_mayClassStand_9 rfl (lv_at hl 0 rfl) ?_
    refine va_get (D := (dC, dI)) (ci := 7) (v := .int v7_2) (C := RX7) (T := TX7) (N := 3) hx hb hts i_X7_mayClassStand_X7 hown hK hP 0 rfl rfl 2 (by decide) k_2 (fun _ h9 => h9) rfl dX7_mayClassStand_10 ?_
    refine lv_icmp_lt (tgt := 18) hx hb dX7_mayClassStand_13 (by decide) (fun c_7 => ?_) (fun c_7 => ?_)
    · replace hf := x_ip c_7 hf
      refine lv_iload_n hx hb dX7_mayClassStand_18 rfl (lv_at hl 2 rfl) ?_
      refine lv_if_eq (tgt := 31) hx hb dX7_mayClassStand_19 (by decide) (fun c_8 => ?_) (fun c_8 => ?_)
      · replace hf := x_ip c_8 hf
        refine lv_iconst (v := 1) hx hb dX7_mayClassStand_31 (by decide) ?_
        obtain rfl := Option.some.inj hf
        exact W.zret (ty := .boolean) hx hb hr rfl (fun t ht hW => ⟨⟨_, (), rfl, ⟨rfl, rfl⟩, trivial⟩, hS.F ht⟩) hS.2.2 dX7_mayClassStand_32
      · replace hf := x_in c_8 hf
        refine lv_aload_n hx hb dX7_mayClassStand_22 rfl (lv_at hl 0 rfl) ?_
        refine va_get (D := (dC, dI)) (ci := 7) (v := .ref a7_1) (C := RX7) (T := TX7) (N := 3) hx hb hts i_X7_mayClassStand_X7 hown hK hP 0 rfl rfl 1 (by decide) k_3 (fun _ h9 => h9) rfl dX7_mayClassStand_23 ?_
        refine lv_iload_n hx hb dX7_mayClassStand_26 rfl (lv_at hl 2 rfl) ?_
        obtain ⟨g_9, hf⟩ := x_gu hf
        refine va_zald hx hb hK hP 2 1 rfl rfl (x_gdin g_9) dX7_mayClassStand_27 ?_
        refine lv_if_eq (tgt := 33) hx hb dX7_mayClassStand_28 (by decide) (fun c_10 => ?_) (fun c_10 => ?_)
        · replace hf := x_ip c_10 hf
          refine lv_iload_n hx hb dX7_mayClassStand_33 rfl (lv_at hl 1 rfl) ?_
          refine lv_istore_n (lv' := [(3, .int p1), (0, .ref o7), (1, .int p1), (2, .int p2)]) hx hb dX7_mayClassStand_34 rfl hl (by decide) rfl (fun ls hl => ?_)
          refine lv_iconst (v := 0) hx hb dX7_mayClassStand_35 (by decide) ?_
          refine lv_istore (lv' := [(4, .int 0), (3, .int p1), (0, .ref o7), (1, .int p1), (2, .int p2)]) hx hb dX7_mayClassStand_36 hl (by decide) rfl (fun ls hl => ?_)
          exact (hWW _ _ _ _ _).mpr ((J p2 (0, p1, 0) _ hf rfl _ _ _ rfl) rfl H locs ls hP hS (lv_sub hl [2, 4, 1, 0] rfl))
        · replace hf := x_in c_10 hf
          refine lv_iconst (v := 1) hx hb dX7_mayClassStand_31 (by decide) ?_
          obtain rfl := Option.some.inj hf
          exact W.zret (ty := .boolean) hx hb hr rfl (fun t ht hW => ⟨⟨_, (), rfl, ⟨rfl, rfl⟩, trivial⟩, hS.F ht⟩) hS.2.2 dX7_mayClassStand_32
    · replace hf := x_in c_7 hf
      refine lv_iconst (v := 0) hx hb dX7_mayClassStand_16 (by decide) ?_
      obtain rfl := Option.some.inj hf
      exact W.zret (ty := .boolean) hx hb hr rfl (fun t ht hW => ⟨⟨_, (), rfl, ⟨rfl, rfl⟩, trivial⟩, hS.F ht⟩) hS.2.2 dX7_mayClassStand_17

def f_X7_mayStand (v7_2 : Int32) (g7_0 : Nat → Int32) (g7_1 : Nat → Int32) (p1 : Int32) (p2 : Int32) : Option (Int32) := if p1 = p2 then some 1 else (f_X7_isPrimitive p1) >>= (fun r_2 => if r_2 = (0 : Int32) then (f_X7_isPrimitive p2) >>= (fun r_4 => if r_4 = (0 : Int32) then (f_X7_dimensionsOf p1) >>= (fun r_6 => (f_X7_dimensionsOf p2) >>= (fun r_7 => if (r_6 - r_7) ≤ (0 : Int32) then if (r_6 - r_7) = (0 : Int32) then (f_X7_mayClassStand v7_2 g7_0 g7_1 (p1 &&& 65535) (p2 &&& 65535)) >>= (fun r_10 => if r_10 = (0 : Int32) then some 0 else some 1) else some 0 else if (p2 &&& 65535) = (0 : Int32) then some 1 else if (p2 &&& 65535) = (2 : Int32) then some 1 else if (p2 &&& 65535) = (3 : Int32) then some 1 else some 0)) else some 0) else some 0)
set_option maxHeartbeats 4000000 in
set_option maxRecDepth 100000 in
theorem c_X7_mayStand (l : Launch) (dC : Nat → ClassId) (dI : Nat → Nat → Nat) (cyI cyZ cyJ : ClassId) (sz : Nat) (o7 : Nat) (a7_0 : Nat) (a7_1 : Nat) (v7_2 : Int32) (g7_0 : Nat → Int32) (g7_1 : Nat → Int32) (p1 : Int32) (p2 : Int32) (R : Int32) (hf : f_X7_mayStand v7_2 g7_0 g7_1 p1 p2 = some R) : Met l yX7_mayStand wsX7_mayStand ({ frames := 1, cells := 0, slots := 0, locals := 24 }) (va_Pc [.ref o7, .int p1, .int p2] (x_Pre (dC, dI) (x_T cyI cyZ cyJ) [(o7, .inr (7, [.ref a7_0, .ref a7_1, .int v7_2])), (a7_0, .inl (cyI, 200, .inl g7_0)), (a7_1, .inl (cyZ, 200, .inl g7_1))] sz)) (va_Qi (fun (r : Int32) (_ : Unit) => r = R ∧ x_nb r) (fun _ _ => True) (x_new sz)) 0 0 (x_new sz) := by
  refine Met.ofW (cc := cX7_mayStand) (maxL := 5) (ret := (some .boolean)) (by decide) rfl ?_
  intro p e s m args below meth c s₁ B hml hv
  obtain ⟨rfl, hsz, hP, hK, hN⟩ := hv
  have hx := B.exec
  have hb := B.bytes
  have hr := B.returns
  have hts := atoms_spec (ws := wsX7_mayStand) B.pre
  have hown : s.vm.findClass RX7 = some m.cls := findClass_of_methodNamed B.named
  have k_1 := hts (.constant RX7 23 (65535)) (by decide +kernel)
  subst hsz
  have hA : ∀ q : Nat, s.heap.size ≤ q → x_new s.heap.size q := fun _ h => h
  have hS : va_S (x_new s.heap.size) s.heap s.heap [] := va_S.rf
  have hP : va_P (dC, dI) vwCl [(o7, .inr (7, [.ref a7_0, .ref a7_1, .int v7_2])), (a7_0, .inl (cyI, 200, .inl g7_0)), (a7_1, .inl (cyZ, 200, .inl g7_1))] s.heap := hP
  have hl := lv_entry ([.ref o7, .int p1, .int p2]) (n := 5) (Nat.le_of_ble_eq_true rfl)
  rw [lg_entry_eq]
  generalize (lg_sl ([.ref o7, .int p1, .int p2]) ++ List.replicate (5 - (lg_sl ([.ref o7, .int p1, .int p2])).length) Slot.unset).toArray = ls at hl ⊢
  have hl : lv_has ls 5 [(0, .ref o7), (1, .int p1), (2, .int p2)] := hl
  obtain ⟨H, hH⟩ : ∃ z, z = s.heap := ⟨_, rfl⟩
  refine x_here hH ?_
  have hP : va_P (dC, dI) vwCl [(o7, .inr (7, [.ref a7_0, .ref a7_1, .int v7_2])), (a7_0, .inl (cyI, 200, .inl g7_0)), (a7_1, .inl (cyZ, 200, .inl g7_1))] H := by rw [hH]; exact hP
  have hS : va_S (x_new s.heap.size) s.heap H [] := by rw [hH]; exact va_S.rf
  clear hH
  obtain ⟨locs, hlo⟩ : ∃ z : List Loc, z = [] := ⟨_, rfl⟩
  refine x_herl hlo ?_
  have hS : va_S (x_new s.heap.size) s.heap H locs := by rw [hlo]; exact hS
  clear hlo
  unfold f_X7_mayStand at hf
  refine lv_iload_n hx hb dX7_mayStand_0 rfl (lv_at hl 1 rfl) ?_
  refine lv_iload_n hx hb dX7_mayStand_1 rfl (lv_at hl 2 rfl) ?_
  refine lv_icmp_ne (tgt := 7) hx hb dX7_mayStand_2 (by decide) (fun c_1 => ?_) (fun c_1 => ?_)
  · replace hf := x_in c_1 hf
    refine lv_iload_n hx hb dX7_mayStand_7 rfl (lv_at hl 1 rfl) ?_
    obtain ⟨r_2, h_2, hf⟩ := x_bi hf
    have hPc := hP.sub (ws' := []) [] rfl
    refine va_calli (va_runS (As := [.int p1]) (rest := []) ⟨hx, hb, hml, hown, hts⟩ (c_X7_isPrimitive l dC dI cyI cyZ cyJ H.size p1 r_2 h_2) (va_cwS 1 hts gX7_mayStand_X7_isPrimitive rfl rfl rfl (by decide +kernel) ⟨Nat.le_of_ble_eq_true rfl, Nat.le_of_ble_eq_true rfl⟩) (x_pS hN hK hPc) rfl rfl hl.1 rfl (lv_room (Nat.le_of_ble_eq_true rfl)) dX7_mayStand_8 ⟨Nat.le_of_ble_eq_true rfl, Nat.le_of_ble_eq_true rfl⟩) hS x_nA (x_nf hA hS) (fun q_2 u t H1 locs ht hvm hw hB hz1 hk1 hS => ?_)
    have hP := x_kp hP hk1
    clear ht hvm hB hz1 hk1 t u hPc
    generalize H1 = H at hP hS ⊢
    obtain ⟨hw, b_2⟩ := hw
    obtain rfl := hw.symm
    refine lv_if_ne (tgt := 21) hx hb dX7_mayStand_11 (by decide) (fun c_3 => ?_) (fun c_3 => ?_)
    · replace hf := x_in c_3 hf
      refine lv_iconst (v := 0) hx hb dX7_mayStand_21 (by decide) ?_
      obtain rfl := Option.some.inj hf
      exact W.zret (ty := .boolean) hx hb hr rfl (fun t ht hW => ⟨⟨_, (), rfl, ⟨rfl, rfl⟩, trivial⟩, hS.F ht⟩) hS.2.2 dX7_mayStand_22
    · replace hf := x_ip c_3 hf
      refine lv_iload_n hx hb dX7_mayStand_14 rfl (lv_at hl 2 rfl) ?_
      obtain ⟨r_4, h_4, hf⟩ := x_bi hf
      have hPc := hP.sub (ws' := []) [] rfl
      refine va_calli (va_runS (As := [.int p2]) (rest := []) ⟨hx, hb, hml, hown, hts⟩ (c_X7_isPrimitive l dC dI cyI cyZ cyJ H.size p2 r_4 h_4) (va_cwS 1 hts gX7_mayStand_X7_isPrimitive rfl rfl rfl (by decide +kernel) ⟨Nat.le_of_ble_eq_true rfl, Nat.le_of_ble_eq_true rfl⟩) (x_pS hN hK hPc) rfl rfl hl.1 rfl (lv_room (Nat.le_of_ble_eq_true rfl)) dX7_mayStand_15 ⟨Nat.le_of_ble_eq_true rfl, Nat.le_of_ble_eq_true rfl⟩) hS x_nA (x_nf hA hS) (fun q_4 u t H1 locs ht hvm hw hB hz1 hk1 hS => ?_)
      have hP := x_kp hP hk1
      clear ht hvm hB hz1 hk1 t u hPc
      generalize H1 = H at hP hS ⊢
      obtain ⟨hw, b_4⟩ := hw
      obtain rfl := hw.symm
      refine lv_if_eq (tgt := 23) hx hb dX7_mayStand_18 (by decide) (fun c_5 => ?_) (fun c_5 => ?_)
      · replace hf := x_ip c_5 hf
        refine lv_iload_n hx hb dX7_mayStand_23 rfl (lv_at hl 2 rfl) ?_
        refine lv_ldc (v := 65535) hx hb hown k_1 dX7_mayStand_24 ?_
        refine lv_iand hx hb dX7_mayStand_26 ?_
        refine lv_istore_n (lv' := [(3, .int (p2 &&& 65535)), (0, .ref o7), (1, .int p1), (2, .int p2)]) hx hb dX7_mayStand_27 rfl hl (by decide) rfl (fun ls hl => ?_)
        refine lv_iload_n hx hb dX7_mayStand_28 rfl (lv_at hl 2 rfl) ?_
        obtain ⟨r_6, h_6, hf⟩ := x_bi hf
        have hPc := hP.sub (ws' := []) [] rfl
        refine va_calli (va_runS (As := [.int p1]) (rest := []) ⟨hx, hb, hml, hown, hts⟩ (c_X7_dimensionsOf l dC dI cyI cyZ cyJ H.size p1 r_6 h_6) (va_cwS 1 hts gX7_mayStand_X7_dimensionsOf rfl rfl rfl (by decide +kernel) ⟨Nat.le_of_ble_eq_true rfl, Nat.le_of_ble_eq_true rfl⟩) (x_pS hN hK hPc) rfl rfl hl.1 rfl (lv_room (Nat.le_of_ble_eq_true rfl)) dX7_mayStand_29 ⟨Nat.le_of_ble_eq_true rfl, Nat.le_of_ble_eq_true rfl⟩) hS x_nA (x_nf hA hS) (fun q_6 u t H1 locs ht hvm hw hB hz1 hk1 hS => ?_)
        have hP := x_kp hP hk1
        clear ht hvm hB hz1 hk1 t u hPc
        generalize H1 = H at hP hS ⊢
        obtain rfl := hw.symm
        refine lv_iload_n hx hb dX7_mayStand_32 rfl (lv_at hl 3 rfl) ?_
        obtain ⟨r_7, h_7, hf⟩ := x_bi hf
        have hPc := hP.sub (ws' := []) [] rfl
        refine va_calli (va_runS (As := [.int p2]) (rest := [.int r_6]) ⟨hx, hb, hml, hown, hts⟩ (c_X7_dimensionsOf l dC dI cyI cyZ cyJ H.size p2 r_7 h_7) (va_cwS 1 hts gX7_mayStand_X7_dimensionsOf rfl rfl rfl (by decide +kernel) ⟨Nat.le_of_ble_eq_true rfl, Nat.le_of_ble_eq_true rfl⟩) (x_pS hN hK hPc) rfl rfl hl.1 rfl (lv_room (Nat.le_of_ble_eq_true rfl)) dX7_mayStand_33 ⟨Nat.le_of_ble_eq_true rfl, Nat.le_of_ble_eq_true rfl⟩) hS x_nA (x_nf hA hS) (fun q_7 u t H1 locs ht hvm hw hB hz1 hk1 hS => ?_)
        have hP := x_kp hP hk1
        clear ht hvm hB hz1 hk1 t u hPc
        generalize H1 = H at hP hS ⊢
        obtain rfl := hw.symm
        refine lv_isub hx hb dX7_mayStand_36 ?_
        refine lv_istore (lv' := [(4, .int (r_6 - r_7)), (3, .int (p2 &&& 65535)), (0, .ref o7), (1, .int p1), (2, .int p2)]) hx hb dX7_mayStand_37 hl (by decide) rfl (fun ls hl => ?_)
        refine lv_iload hx hb dX7_mayStand_39 (lv_at hl 0 rfl) ?_
        refine lv_if_le (tgt := 64) hx hb dX7_mayStand_41 (by decide) (fun c_8 => ?_) (fun c_8 => ?_)
        · replace hf := x_ip c_8 hf
          refine lv_iload hx hb dX7_mayStand_64 (lv_at hl 0 rfl) ?_
          refine lv_if_ne (tgt := 85) hx hb dX7_mayStand_66 (by decide) (fun c_9 => ?_) (fun c_9 => ?_)
          · replace hf := x_in c_9 hf
            refine lv_iconst (v := 0) hx hb dX7_mayStand_85 (by decide) ?_
            obtain rfl := Option.some.inj hf
            exact W.zret (ty := .boolean) hx hb hr rfl (fun t ht hW => ⟨⟨_, (), rfl, ⟨rfl, rfl⟩, trivial⟩, hS.F ht⟩) hS.2.2 dX7_mayStand_86
          · replace hf := x_ip c_9 hf
            refine lv_aload_n hx hb dX7_mayStand_69 rfl (lv_at hl 2 rfl) ?_
            refine lv_iload_n hx hb dX7_mayStand_70 rfl (lv_at hl 3 rfl) ?_
            refine lv_ldc (v := 65535) hx hb hown k_1 dX7_mayStand_71 ?_
            refine lv_iand hx hb dX7_mayStand_73 ?_
            refine lv_iload_n hx hb dX7_mayStand_74 rfl (lv_at hl 1 rfl) ?_
            obtain ⟨r_10, h_10, hf⟩ := x_bi hf
            have hPc := hP.sub (ws' := [(o7, .inr (7, [.ref a7_0, .ref a7_1, .int v7_2])), (a7_0, .inl (cyI, 200, .inl g7_0)), (a7_1, .inl (cyZ, 200, .inl g7_1))]) [0, 1, 2] rfl
            refine va_calli (va_runV (As := [.int (p1 &&& 65535), .int (p2 &&& 65535)]) (rest := []) ⟨hx, hb, hml, hown, hts⟩ (c_X7_mayClassStand l dC dI cyI cyZ cyJ H.size o7 a7_0 a7_1 v7_2 g7_0 g7_1 (p1 &&& 65535) (p2 &&& 65535) r_10 h_10) (cwV 2 hts gX7_mayStand_X7_mayClassStand rfl rfl rfl (by decide +kernel) ⟨Nat.le_of_ble_eq_true rfl, Nat.le_of_ble_eq_true rfl⟩) (x_pV hN hK hPc (ci := 7) (q0 := 0) rfl rfl) rfl rfl hl.1 rfl (lv_room (Nat.le_of_ble_eq_true rfl)) dX7_mayStand_75 ⟨Nat.le_of_ble_eq_true rfl, Nat.le_of_ble_eq_true rfl⟩) hS x_nA (x_nf hA hS) (fun q_10 u t H1 locs ht hvm hw hB hz1 hk1 hS => ?_)
            have hP := x_kp hP hk1
            clear ht hvm hB hz1 hk1 t u hPc
            generalize H1 = H at hP hS ⊢
            obtain ⟨hw, b_10⟩ := hw
            obtain rfl := hw.symm
            refine lv_if_eq (tgt := 85) hx hb dX7_mayStand_78 (by decide) (fun c_11 => ?_) (fun c_11 => ?_)
            · replace hf := x_ip c_11 hf
              refine lv_iconst (v := 0) hx hb dX7_mayStand_85 (by decide) ?_
              obtain rfl := Option.some.inj hf
              exact W.zret (ty := .boolean) hx hb hr rfl (fun t ht hW => ⟨⟨_, (), rfl, ⟨rfl, rfl⟩, trivial⟩, hS.F ht⟩) hS.2.2 dX7_mayStand_86
            · replace hf := x_in c_11 hf
              refine lv_iconst (v := 1) hx hb dX7_mayStand_81 (by decide) ?_
              refine lv_goto (tgt := 86) hx hb dX7_mayStand_82 (by decide) ?_
              obtain rfl := Option.some.inj hf
              exact W.zret (ty := .boolean) hx hb hr rfl (fun t ht hW => ⟨⟨_, (), rfl, ⟨rfl, rfl⟩, trivial⟩, hS.F ht⟩) hS.2.2 dX7_mayStand_86
        · replace hf := x_in c_8 hf
          refine lv_iload_n hx hb dX7_mayStand_44 rfl (lv_at hl 1 rfl) ?_
          refine lv_if_eq (tgt := 58) hx hb dX7_mayStand_45 (by decide) (fun c_12 => ?_) (fun c_12 => ?_)
          · replace hf := x_ip c_12 hf
            refine lv_iconst (v := 1) hx hb dX7_mayStand_58 (by decide) ?_
            refine lv_goto (tgt := 63) hx hb dX7_mayStand_59 (by decide) ?_
            obtain rfl := Option.some.inj hf
            exact W.zret (ty := .boolean) hx hb hr rfl (fun t ht hW => ⟨⟨_, (), rfl, ⟨rfl, rfl⟩, trivial⟩, hS.F ht⟩) hS.2.2 dX7_mayStand_63
          · replace hf := x_in c_12 hf
            refine lv_iload_n hx hb dX7_mayStand_48 rfl (lv_at hl 1 rfl) ?_
            refine lv_iconst (v := 2) hx hb dX7_mayStand_49 (by decide) ?_
            refine lv_icmp_eq (tgt := 58) hx hb dX7_mayStand_50 (by decide) (fun c_13 => ?_) (fun c_13 => ?_)
            · replace hf := x_ip c_13 hf
              refine lv_iconst (v := 1) hx hb dX7_mayStand_58 (by decide) ?_
              refine lv_goto (tgt := 63) hx hb dX7_mayStand_59 (by decide) ?_
              obtain rfl := Option.some.inj hf
              exact W.zret (ty := .boolean) hx hb hr rfl (fun t ht hW => ⟨⟨_, (), rfl, ⟨rfl, rfl⟩, trivial⟩, hS.F ht⟩) hS.2.2 dX7_mayStand_63
            · replace hf := x_in c_13 hf
              refine lv_iload_n hx hb dX7_mayStand_53 rfl (lv_at hl 1 rfl) ?_
              refine lv_iconst (v := 3) hx hb dX7_mayStand_54 (by decide) ?_
              refine lv_icmp_ne (tgt := 62) hx hb dX7_mayStand_55 (by decide) (fun c_14 => ?_) (fun c_14 => ?_)
              · replace hf := x_in c_14 hf
                refine lv_iconst (v := 0) hx hb dX7_mayStand_62 (by decide) ?_
                obtain rfl := Option.some.inj hf
                exact W.zret (ty := .boolean) hx hb hr rfl (fun t ht hW => ⟨⟨_, (), rfl, ⟨rfl, rfl⟩, trivial⟩, hS.F ht⟩) hS.2.2 dX7_mayStand_63
              · replace hf := x_ip c_14 hf
                refine lv_iconst (v := 1) hx hb dX7_mayStand_58 (by decide) ?_
                refine lv_goto (tgt := 63) hx hb dX7_mayStand_59 (by decide) ?_
                obtain rfl := Option.some.inj hf
                exact W.zret (ty := .boolean) hx hb hr rfl (fun t ht hW => ⟨⟨_, (), rfl, ⟨rfl, rfl⟩, trivial⟩, hS.F ht⟩) hS.2.2 dX7_mayStand_63
      · replace hf := x_in c_5 hf
        refine lv_iconst (v := 0) hx hb dX7_mayStand_21 (by decide) ?_
        obtain rfl := Option.some.inj hf
        exact W.zret (ty := .boolean) hx hb hr rfl (fun t ht hW => ⟨⟨_, (), rfl, ⟨rfl, rfl⟩, trivial⟩, hS.F ht⟩) hS.2.2 dX7_mayStand_22
  · replace hf := x_ip c_1 hf
    refine lv_iconst (v := 1) hx hb dX7_mayStand_5 (by decide) ?_
    obtain rfl := Option.some.inj hf
    exact W.zret (ty := .boolean) hx hb hr rfl (fun t ht hW => ⟨⟨_, (), rfl, ⟨rfl, rfl⟩, trivial⟩, hS.F ht⟩) hS.2.2 dX7_mayStand_6

def f_X7_sharedOf_0_L (v7_2 : Int32) (g7_0 : Nat → Int32) (l5 : Int32) (z : Nat × Int32 × Int32 × Int32) : Option (Int32) := match z with
  | (q, l3, l4, l7) => if q = 0 then if (400 : Int32) ≤ l7 then some ((l5 <<< (16 &&& 31)) + l3) else if l3 = l4 then some ((l5 <<< (16 &&& 31)) + l3) else if l3 ≤ l4 then if x_gd l4 200 = true then (f_X7_sharedOf_0_L v7_2 g7_0 l5 (0, l3, g7_0 (Int32.toNatClampNeg l4), l7 + 1)) else none else if x_gd l3 200 = true then (f_X7_sharedOf_0_L v7_2 g7_0 l5 (0, g7_0 (Int32.toNatClampNeg l3), l4, l7 + 1)) else none else none
partial_fixpoint
def f_X7_sharedOf_0 (v7_2 : Int32) (g7_0 : Nat → Int32) (p1 : Int32) (p2 : Int32) : Option (Int32) := if p1 = p2 then some p1 else (f_X7_dimensionsOf p1) >>= (fun r_7 => (f_X7_dimensionsOf p2) >>= (fun r_8 => if r_7 = r_8 then if v7_2 ≤ (p1 &&& 65535) then if (65528 : Int32) ≤ (p1 &&& 65535) then if (65528 : Int32) ≤ (p2 &&& 65535) then if (r_8 - (1 : Int32)) ≤ (r_7 - (1 : Int32)) then some ((r_8 - (1 : Int32)) <<< (16 &&& 31)) else some ((r_7 - (1 : Int32)) <<< (16 &&& 31)) else if r_8 ≤ (r_7 - (1 : Int32)) then some (r_8 <<< (16 &&& 31)) else some ((r_7 - (1 : Int32)) <<< (16 &&& 31)) else if (65528 : Int32) ≤ (p2 &&& 65535) then if (r_8 - (1 : Int32)) ≤ r_7 then some ((r_8 - (1 : Int32)) <<< (16 &&& 31)) else some (r_7 <<< (16 &&& 31)) else if r_8 ≤ r_7 then some (r_8 <<< (16 &&& 31)) else some (r_7 <<< (16 &&& 31)) else if (p2 &&& 65535) < v7_2 then (f_X7_sharedOf_0_L v7_2 g7_0 r_7 (0, p1 &&& 65535, p2 &&& 65535, 0)) else if (65528 : Int32) ≤ (p1 &&& 65535) then if (65528 : Int32) ≤ (p2 &&& 65535) then if (r_8 - (1 : Int32)) ≤ (r_7 - (1 : Int32)) then some ((r_8 - (1 : Int32)) <<< (16 &&& 31)) else some ((r_7 - (1 : Int32)) <<< (16 &&& 31)) else if r_8 ≤ (r_7 - (1 : Int32)) then some (r_8 <<< (16 &&& 31)) else some ((r_7 - (1 : Int32)) <<< (16 &&& 31)) else if (65528 : Int32) ≤ (p2 &&& 65535) then if (r_8 - (1 : Int32)) ≤ r_7 then some ((r_8 - (1 : Int32)) <<< (16 &&& 31)) else some (r_7 <<< (16 &&& 31)) else if r_8 ≤ r_7 then some (r_8 <<< (16 &&& 31)) else some (r_7 <<< (16 &&& 31)) else if (65528 : Int32) ≤ (p1 &&& 65535) then if (65528 : Int32) ≤ (p2 &&& 65535) then if (r_8 - (1 : Int32)) ≤ (r_7 - (1 : Int32)) then some ((r_8 - (1 : Int32)) <<< (16 &&& 31)) else some ((r_7 - (1 : Int32)) <<< (16 &&& 31)) else if r_8 ≤ (r_7 - (1 : Int32)) then some (r_8 <<< (16 &&& 31)) else some ((r_7 - (1 : Int32)) <<< (16 &&& 31)) else if (65528 : Int32) ≤ (p2 &&& 65535) then if (r_8 - (1 : Int32)) ≤ r_7 then some ((r_8 - (1 : Int32)) <<< (16 &&& 31)) else some (r_7 <<< (16 &&& 31)) else if r_8 ≤ r_7 then some (r_8 <<< (16 &&& 31)) else some (r_7 <<< (16 &&& 31))))
theorem i_X7_sharedOf_0_X7 : ∀ w ∈ wsX70, w ∈ wsX7_sharedOf := fun _ h => List.mem_cons_of_mem _ (List.mem_append_right _ h)
set_option maxHeartbeats 4000000 in
set_option maxRecDepth 100000 in
theorem c_X7_sharedOf_0 (l : Launch) (dC : Nat → ClassId) (dI : Nat → Nat → Nat) (cyI cyZ cyJ : ClassId) (sz : Nat) (o7 : Nat) (a7_0 : Nat) (a7_1 : Nat) (v7_2 : Int32) (g7_0 : Nat → Int32) (p1 : Int32) (p2 : Int32) (R : Int32) (hf : f_X7_sharedOf_0 v7_2 g7_0 p1 p2 = some R) : Met l yX7_sharedOf wsX7_sharedOf ({ frames := 1, cells := 0, slots := 0, locals := 20 }) (va_Pc [.ref o7, .int p1, .int p2] (x_Pre (dC, dI) (x_T cyI cyZ cyJ) [(o7, .inr (7, [.ref a7_0, .ref a7_1, .int v7_2])), (a7_0, .inl (cyI, 200, .inl g7_0))] sz)) (va_Qi (fun (r : Int32) (_ : Unit) => r = R) (fun _ _ => True) (x_new sz)) 0 0 (x_new sz) := by
  refine Met.ofW (cc := cX7_sharedOf) (maxL := 9) (ret := (some .int)) (by decide) rfl ?_
  intro p e s m args below meth c s₁ B hml hv
  obtain ⟨rfl, hsz, hP, hK, hN⟩ := hv
  have hx := B.exec
  have hb := B.bytes
  have hr := B.returns
  have hts := atoms_spec (ws := wsX7_sharedOf) B.pre
  have hown : s.vm.findClass RX7 = some m.cls := findClass_of_methodNamed B.named
  have k_1 := hts (.fieldLink RX7 9 "FlowJudge$Types" "above" "[I") (by decide +kernel)
  have k_2 := hts (.constant RX7 23 (65535)) (by decide +kernel)
  have k_3 := hts (.constant RX7 28 (65528)) (by decide +kernel)
  have k_4 := hts (.fieldLink RX7 19 "FlowJudge$Types" "count" "I") (by decide +kernel)
  subst hsz
  have hA : ∀ q : Nat, s.heap.size ≤ q → x_new s.heap.size q := fun _ h => h
  have hS : va_S (x_new s.heap.size) s.heap s.heap [] := va_S.rf
  have hP : va_P (dC, dI) vwCl [(o7, .inr (7, [.ref a7_0, .ref a7_1, .int v7_2])), (a7_0, .inl (cyI, 200, .inl g7_0))] s.heap := hP
  have hl := lv_entry ([.ref o7, .int p1, .int p2]) (n := 9) (Nat.le_of_ble_eq_true rfl)
  rw [lg_entry_eq]
  generalize (lg_sl ([.ref o7, .int p1, .int p2]) ++ List.replicate (9 - (lg_sl ([.ref o7, .int p1, .int p2])).length) Slot.unset).toArray = ls at hl ⊢
  have hl : lv_has ls 9 [(0, .ref o7), (1, .int p1), (2, .int p2)] := hl
  obtain ⟨H, hH⟩ : ∃ z, z = s.heap := ⟨_, rfl⟩
  refine x_here hH ?_
  have hP : va_P (dC, dI) vwCl [(o7, .inr (7, [.ref a7_0, .ref a7_1, .int v7_2])), (a7_0, .inl (cyI, 200, .inl g7_0))] H := by rw [hH]; exact hP
  have hS : va_S (x_new s.heap.size) s.heap H [] := by rw [hH]; exact va_S.rf
  clear hH
  obtain ⟨locs, hlo⟩ : ∃ z : List Loc, z = [] := ⟨_, rfl⟩
  refine x_herl hlo ?_
  have hS : va_S (x_new s.heap.size) s.heap H locs := by rw [hlo]; exact hS
  clear hlo
  unfold f_X7_sharedOf_0 at hf
  refine x_wn (fun WW hWW => ?_)
  have J := fun (l5 : Int32) => f_X7_sharedOf_0_L.partial_correctness v7_2 g7_0 l5 (fun (z : Nat × Int32 × Int32 × Int32) (r : Int32) => r = R → ∀ (q : Nat) (l3 : Int32) (l4 : Int32) (l7 : Int32), z = (q, l3, l4, l7) → ((q = 0 → ∀ (H : Heap) (locs : List Loc) (ls : Array Slot), va_P (dC, dI) vwCl [(o7, .inr (7, [.ref a7_0, .ref a7_1, .int v7_2])), (a7_0, .inl (cyI, 200, .inl g7_0))] H → va_S (x_new s.heap.size) s.heap H locs → lv_has ls 9 [(0, .ref o7), (3, .int l3), (4, .int l4), (5, .int l5), (7, .int l7)] → WW H locs 0 0 (F0 m 110 ls [])))) (by
    intro F ih z r hf hr q l3 l4 l7 hz
    subst hz
    obtain rfl := hr
    · intro hq H locs ls hP hS hl
      subst hq
      refine (hWW _ _ _ _ _).mp ?_
      replace hf := x_ip rfl hf
      refine lv_iload hx hb dX7_sharedOf_110 (lv_at hl 4 rfl) ?_
      refine lv_sipush (v := 400) hx hb dX7_sharedOf_112 (by decide) ?_
      refine lv_icmp_ge (tgt := 155) hx hb dX7_sharedOf_115 (by decide) (fun c_1 => ?_) (fun c_1 => ?_)
      · replace hf := x_ip c_1 hf
        refine lv_iload hx hb dX7_sharedOf_155 (lv_at hl 3 rfl) ?_
        refine lv_bipush (v := 16) hx hb dX7_sharedOf_157 (by decide) ?_
        refine lv_ishl hx hb dX7_sharedOf_159 ?_
        refine lv_iload_n hx hb dX7_sharedOf_160 rfl (lv_at hl 1 rfl) ?_
        refine lv_iadd hx hb dX7_sharedOf_161 ?_
        obtain rfl := Option.some.inj hf
        exact W.iret hx hb hr (fun t ht hW => ⟨⟨_, (), rfl, rfl, trivial⟩, hS.F ht⟩) hS.2.2 dX7_sharedOf_162
      · replace hf := x_in c_1 hf
        refine lv_iload_n hx hb dX7_sharedOf_118 rfl (lv_at hl 1 rfl) ?_
        refine lv_iload hx hb dX7_sharedOf_119 (lv_at hl 2 rfl) ?_
        refine lv_icmp_eq (tgt := 155) hx hb dX7_sharedOf_121 (by decide) (fun c_2 => ?_) (fun c_2 => ?_)
        · replace hf := x_ip c_2 hf
          refine lv_iload hx hb dX7_sharedOf_155 (lv_at hl 3 rfl) ?_
          refine lv_bipush (v := 16) hx hb dX7_sharedOf_157 (by decide) ?_
          refine lv_ishl hx hb dX7_sharedOf_159 ?_
          refine lv_iload_n hx hb dX7_sharedOf_160 rfl (lv_at hl 1 rfl) ?_
          refine lv_iadd hx hb dX7_sharedOf_161 ?_
          obtain rfl := Option.some.inj hf
          exact W.iret hx hb hr (fun t ht hW => ⟨⟨_, (), rfl, rfl, trivial⟩, hS.F ht⟩) hS.2.2 dX7_sharedOf_162
        · replace hf := x_in c_2 hf
          refine lv_iload_n hx hb dX7_sharedOf_124 rfl (lv_at hl 1 rfl) ?_
          refine lv_iload hx hb dX7_sharedOf_125 (lv_at hl 2 rfl) ?_
          refine lv_icmp_le (tgt := 140) hx hb dX7_sharedOf_127 (by decide) (fun c_3 => ?_) (fun c_3 => ?_)
          · replace hf := x_ip c_3 hf
            refine lv_aload_n hx hb dX7_sharedOf_140 rfl (lv_at hl 0 rfl) ?_
            refine va_get (D := (dC, dI)) (ci := 7) (v := .ref a7_0) (C := RX7) (T := TX7) (N := 3) hx hb hts i_X7_sharedOf_0_X7 hown hK hP 0 rfl rfl 0 (by decide) k_1 (fun _ h9 => h9) rfl dX7_sharedOf_141 ?_
            refine lv_iload hx hb dX7_sharedOf_144 (lv_at hl 2 rfl) ?_
            obtain ⟨g_4, hf⟩ := x_gu hf
            refine va_iald hx hb hK hP 1 0 rfl rfl (x_gdin g_4) dX7_sharedOf_146 ?_
            refine lv_istore (lv' := [(4, .int (g7_0 (Int32.toNatClampNeg l4))), (0, .ref o7), (3, .int l3), (5, .int l5), (7, .int l7)]) hx hb dX7_sharedOf_147 hl (by decide) rfl (fun ls hl => ?_)
            refine lv_iinc (v := (l7 + 1)) (lv' := [(7, .int (l7 + 1)), (4, .int (g7_0 (Int32.toNatClampNeg l4))), (0, .ref o7), (3, .int l3), (5, .int l5)]) hx hb dX7_sharedOf_149 hl (k := 4) rfl rfl (by decide) rfl (fun ls hl => ?_)
            refine lv_goto (tgt := 110) hx hb dX7_sharedOf_152 (by decide) ?_
            exact (hWW _ _ _ _ _).mpr ((ih (0, l3, g7_0 (Int32.toNatClampNeg l4), l7 + 1) _ hf rfl _ _ _ _ rfl) rfl H locs ls hP hS (lv_sub hl [2, 3, 1, 4, 0] rfl))
          · replace hf := x_in c_3 hf
            refine lv_aload_n hx hb dX7_sharedOf_130 rfl (lv_at hl 0 rfl) ?_
            refine va_get (D := (dC, dI)) (ci := 7) (v := .ref a7_0) (C := RX7) (T := TX7) (N := 3) hx hb hts i_X7_sharedOf_0_X7 hown hK hP 0 rfl rfl 0 (by decide) k_1 (fun _ h9 => h9) rfl dX7_sharedOf_131 ?_
            refine lv_iload_n hx hb dX7_sharedOf_134 rfl (lv_at hl 1 rfl) ?_
            obtain ⟨g_5, hf⟩ := x_gu hf
            refine va_iald hx hb hK hP 1 0 rfl rfl (x_gdin g_5) dX7_sharedOf_135 ?_
            refine lv_istore_n (lv' := [(3, .int (g7_0 (Int32.toNatClampNeg l3))), (0, .ref o7), (4, .int l4), (5, .int l5), (7, .int l7)]) hx hb dX7_sharedOf_136 rfl hl (by decide) rfl (fun ls hl => ?_)
            refine lv_goto (tgt := 149) hx hb dX7_sharedOf_137 (by decide) ?_
            refine lv_iinc (v := (l7 + 1)) (lv' := [(7, .int (l7 + 1)), (3, .int (g7_0 (Int32.toNatClampNeg l3))), (0, .ref o7), (4, .int l4), (5, .int l5)]) hx hb dX7_sharedOf_149 hl (k := 4) rfl rfl (by decide) rfl (fun ls hl => ?_)
            refine lv_goto (tgt := 110) hx hb dX7_sharedOf_152 (by decide) ?_
            exact (hWW _ _ _ _ _).mpr ((ih (0, g7_0 (Int32.toNatClampNeg l3), l4, l7 + 1) _ hf rfl _ _ _ _ rfl) rfl H locs ls hP hS (lv_sub hl [2, 1, 3, 4, 0] rfl)))
  refine lv_iload_n hx hb dX7_sharedOf_0 rfl (lv_at hl 1 rfl) ?_
  refine lv_iload_n hx hb dX7_sharedOf_1 rfl (lv_at hl 2 rfl) ?_
  refine lv_icmp_ne (tgt := 7) hx hb dX7_sharedOf_2 (by decide) (fun c_6 => ?_) (fun c_6 => ?_)
  · replace hf := x_in c_6 hf
    refine lv_iload_n hx hb dX7_sharedOf_7 rfl (lv_at hl 1 rfl) ?_
    refine lv_ldc (v := 65535) hx hb hown k_2 dX7_sharedOf_8 ?_
    refine lv_iand hx hb dX7_sharedOf_10 ?_
    refine lv_istore_n (lv' := [(3, .int (p1 &&& 65535)), (0, .ref o7), (1, .int p1), (2, .int p2)]) hx hb dX7_sharedOf_11 rfl hl (by decide) rfl (fun ls hl => ?_)
    refine lv_iload_n hx hb dX7_sharedOf_12 rfl (lv_at hl 3 rfl) ?_
    refine lv_ldc (v := 65535) hx hb hown k_2 dX7_sharedOf_13 ?_
    refine lv_iand hx hb dX7_sharedOf_15 ?_
    refine lv_istore (lv' := [(4, .int (p2 &&& 65535)), (3, .int (p1 &&& 65535)), (0, .ref o7), (1, .int p1), (2, .int p2)]) hx hb dX7_sharedOf_16 hl (by decide) rfl (fun ls hl => ?_)
    refine lv_iload_n hx hb dX7_sharedOf_18 rfl (lv_at hl 3 rfl) ?_
    obtain ⟨r_7, h_7, hf⟩ := x_bi hf
    have hPc := hP.sub (ws' := []) [] rfl
    refine va_calli (va_runS (As := [.int p1]) (rest := []) ⟨hx, hb, hml, hown, hts⟩ (c_X7_dimensionsOf l dC dI cyI cyZ cyJ H.size p1 r_7 h_7) (va_cwS 1 hts gX7_sharedOf_X7_dimensionsOf rfl rfl rfl (by decide +kernel) ⟨Nat.le_of_ble_eq_true rfl, Nat.le_of_ble_eq_true rfl⟩) (x_pS hN hK hPc) rfl rfl hl.1 rfl (lv_room (Nat.le_of_ble_eq_true rfl)) dX7_sharedOf_19 ⟨Nat.le_of_ble_eq_true rfl, Nat.le_of_ble_eq_true rfl⟩) hS x_nA (x_nf hA hS) (fun q_7 u t H1 locs ht hvm hw hB hz1 hk1 hS => ?_)
    have hP := x_kp hP hk1
    clear ht hvm hB hz1 hk1 t u hPc
    generalize H1 = H at hP hS ⊢
    obtain rfl := hw.symm
    refine lv_istore (lv' := [(5, .int r_7), (4, .int (p2 &&& 65535)), (3, .int (p1 &&& 65535)), (0, .ref o7), (1, .int p1), (2, .int p2)]) hx hb dX7_sharedOf_22 hl (by decide) rfl (fun ls hl => ?_)
    refine lv_iload_n hx hb dX7_sharedOf_24 rfl (lv_at hl 5 rfl) ?_
    obtain ⟨r_8, h_8, hf⟩ := x_bi hf
    have hPc := hP.sub (ws' := []) [] rfl
    refine va_calli (va_runS (As := [.int p2]) (rest := []) ⟨hx, hb, hml, hown, hts⟩ (c_X7_dimensionsOf l dC dI cyI cyZ cyJ H.size p2 r_8 h_8) (va_cwS 1 hts gX7_sharedOf_X7_dimensionsOf rfl rfl rfl (by decide +kernel) ⟨Nat.le_of_ble_eq_true rfl, Nat.le_of_ble_eq_true rfl⟩) (x_pS hN hK hPc) rfl rfl hl.1 rfl (lv_room (Nat.le_of_ble_eq_true rfl)) dX7_sharedOf_25 ⟨Nat.le_of_ble_eq_true rfl, Nat.le_of_ble_eq_true rfl⟩) hS x_nA (x_nf hA hS) (fun q_8 u t H1 locs ht hvm hw hB hz1 hk1 hS => ?_)
    have hP := x_kp hP hk1
    clear ht hvm hB hz1 hk1 t u hPc
    generalize H1 = H at hP hS ⊢
    obtain rfl := hw.symm
    refine lv_istore (lv' := [(6, .int r_8), (5, .int r_7), (4, .int (p2 &&& 65535)), (3, .int (p1 &&& 65535)), (0, .ref o7), (1, .int p1), (2, .int p2)]) hx hb dX7_sharedOf_28 hl (by decide) rfl (fun ls hl => ?_)
    refine lv_iload hx hb dX7_sharedOf_30 (lv_at hl 1 rfl) ?_
    refine lv_iload hx hb dX7_sharedOf_32 (lv_at hl 0 rfl) ?_
    refine lv_icmp_ne (tgt := 54) hx hb dX7_sharedOf_34 (by decide) (fun c_9 => ?_) (fun c_9 => ?_)
    · replace hf := x_in c_9 hf
      refine lv_iload_n hx hb dX7_sharedOf_54 rfl (lv_at hl 3 rfl) ?_
      refine lv_ldc (v := 65528) hx hb hown k_3 dX7_sharedOf_55 ?_
      refine lv_icmp_ge (tgt := 65) hx hb dX7_sharedOf_57 (by decide) (fun c_10 => ?_) (fun c_10 => ?_)
      · replace hf := x_ip c_10 hf
        refine lv_iload hx hb dX7_sharedOf_65 (lv_at hl 1 rfl) ?_
        refine lv_iconst (v := 1) hx hb dX7_sharedOf_67 (by decide) ?_
        refine lv_isub hx hb dX7_sharedOf_68 ?_
        refine lv_istore (lv' := [(7, .int (r_7 - (1 : Int32))), (6, .int r_8), (5, .int r_7), (4, .int (p2 &&& 65535)), (3, .int (p1 &&& 65535)), (0, .ref o7), (1, .int p1), (2, .int p2)]) hx hb dX7_sharedOf_69 hl (by decide) rfl (fun ls hl => ?_)
        refine lv_iload hx hb dX7_sharedOf_71 (lv_at hl 3 rfl) ?_
        refine lv_ldc (v := 65528) hx hb hown k_3 dX7_sharedOf_73 ?_
        refine lv_icmp_ge (tgt := 83) hx hb dX7_sharedOf_75 (by decide) (fun c_11 => ?_) (fun c_11 => ?_)
        · replace hf := x_ip c_11 hf
          refine lv_iload hx hb dX7_sharedOf_83 (lv_at hl 1 rfl) ?_
          refine lv_iconst (v := 1) hx hb dX7_sharedOf_85 (by decide) ?_
          refine lv_isub hx hb dX7_sharedOf_86 ?_
          refine lv_istore (lv' := [(8, .int (r_8 - (1 : Int32))), (7, .int (r_7 - (1 : Int32))), (6, .int r_8), (5, .int r_7), (4, .int (p2 &&& 65535)), (3, .int (p1 &&& 65535)), (0, .ref o7), (1, .int p1), (2, .int p2)]) hx hb dX7_sharedOf_87 hl (by decide) rfl (fun ls hl => ?_)
          refine lv_iload hx hb dX7_sharedOf_89 (lv_at hl 1 rfl) ?_
          refine lv_iload hx hb dX7_sharedOf_91 (lv_at hl 0 rfl) ?_
          refine lv_icmp_ge (tgt := 101) hx hb dX7_sharedOf_93 (by decide) (fun c_12 => ?_) (fun c_12 => ?_)
          · replace hf := x_ip c_12 hf
            refine lv_iload hx hb dX7_sharedOf_101 (lv_at hl 0 rfl) ?_
            refine lv_bipush (v := 16) hx hb dX7_sharedOf_103 (by decide) ?_
            refine lv_ishl hx hb dX7_sharedOf_105 ?_
            obtain rfl := Option.some.inj hf
            exact W.iret hx hb hr (fun t ht hW => ⟨⟨_, (), rfl, rfl, trivial⟩, hS.F ht⟩) hS.2.2 dX7_sharedOf_106
          · replace hf := x_in c_12 hf
            refine lv_iload hx hb dX7_sharedOf_96 (lv_at hl 1 rfl) ?_
            refine lv_goto (tgt := 103) hx hb dX7_sharedOf_98 (by decide) ?_
            refine lv_bipush (v := 16) hx hb dX7_sharedOf_103 (by decide) ?_
            refine lv_ishl hx hb dX7_sharedOf_105 ?_
            obtain rfl := Option.some.inj hf
            exact W.iret hx hb hr (fun t ht hW => ⟨⟨_, (), rfl, rfl, trivial⟩, hS.F ht⟩) hS.2.2 dX7_sharedOf_106
        · replace hf := x_in c_11 hf
          refine lv_iload hx hb dX7_sharedOf_78 (lv_at hl 1 rfl) ?_
          refine lv_goto (tgt := 87) hx hb dX7_sharedOf_80 (by decide) ?_
          refine lv_istore (lv' := [(8, .int r_8), (7, .int (r_7 - (1 : Int32))), (6, .int r_8), (5, .int r_7), (4, .int (p2 &&& 65535)), (3, .int (p1 &&& 65535)), (0, .ref o7), (1, .int p1), (2, .int p2)]) hx hb dX7_sharedOf_87 hl (by decide) rfl (fun ls hl => ?_)
          refine lv_iload hx hb dX7_sharedOf_89 (lv_at hl 1 rfl) ?_
          refine lv_iload hx hb dX7_sharedOf_91 (lv_at hl 0 rfl) ?_
          refine lv_icmp_ge (tgt := 101) hx hb dX7_sharedOf_93 (by decide) (fun c_13 => ?_) (fun c_13 => ?_)
          · replace hf := x_ip c_13 hf
            refine lv_iload hx hb dX7_sharedOf_101 (lv_at hl 0 rfl) ?_
            refine lv_bipush (v := 16) hx hb dX7_sharedOf_103 (by decide) ?_
            refine lv_ishl hx hb dX7_sharedOf_105 ?_
            obtain rfl := Option.some.inj hf
            exact W.iret hx hb hr (fun t ht hW => ⟨⟨_, (), rfl, rfl, trivial⟩, hS.F ht⟩) hS.2.2 dX7_sharedOf_106
          · replace hf := x_in c_13 hf
            refine lv_iload hx hb dX7_sharedOf_96 (lv_at hl 1 rfl) ?_
            refine lv_goto (tgt := 103) hx hb dX7_sharedOf_98 (by decide) ?_
            refine lv_bipush (v := 16) hx hb dX7_sharedOf_103 (by decide) ?_
            refine lv_ishl hx hb dX7_sharedOf_105 ?_
            obtain rfl := Option.some.inj hf
            exact W.iret hx hb hr (fun t ht hW => ⟨⟨_, (), rfl, rfl, trivial⟩, hS.F ht⟩) hS.2.2 dX7_sharedOf_106
      · replace hf := x_in c_10 hf
        refine lv_iload hx hb dX7_sharedOf_60 (lv_at hl 1 rfl) ?_
        refine lv_goto (tgt := 69) hx hb dX7_sharedOf_62 (by decide) ?_
        refine lv_istore (lv' := [(7, .int r_7), (6, .int r_8), (5, .int r_7), (4, .int (p2 &&& 65535)), (3, .int (p1 &&& 65535)), (0, .ref o7), (1, .int p1), (2, .int p2)]) hx hb dX7_sharedOf_69 hl (by decide) rfl (fun ls hl => ?_)
        refine lv_iload hx hb dX7_sharedOf_71 (lv_at hl 3 rfl) ?_
        refine lv_ldc (v := 65528) hx hb hown k_3 dX7_sharedOf_73 ?_
        refine lv_icmp_ge (tgt := 83) hx hb dX7_sharedOf_75 (by decide) (fun c_14 => ?_) (fun c_14 => ?_)
        · replace hf := x_ip c_14 hf
          refine lv_iload hx hb dX7_sharedOf_83 (lv_at hl 1 rfl) ?_
          refine lv_iconst (v := 1) hx hb dX7_sharedOf_85 (by decide) ?_
          refine lv_isub hx hb dX7_sharedOf_86 ?_
          refine lv_istore (lv' := [(8, .int (r_8 - (1 : Int32))), (7, .int r_7), (6, .int r_8), (5, .int r_7), (4, .int (p2 &&& 65535)), (3, .int (p1 &&& 65535)), (0, .ref o7), (1, .int p1), (2, .int p2)]) hx hb dX7_sharedOf_87 hl (by decide) rfl (fun ls hl => ?_)
          refine lv_iload hx hb dX7_sharedOf_89 (lv_at hl 1 rfl) ?_
          refine lv_iload hx hb dX7_sharedOf_91 (lv_at hl 0 rfl) ?_
          refine lv_icmp_ge (tgt := 101) hx hb dX7_sharedOf_93 (by decide) (fun c_15 => ?_) (fun c_15 => ?_)
          · replace hf := x_ip c_15 hf
            refine lv_iload hx hb dX7_sharedOf_101 (lv_at hl 0 rfl) ?_
            refine lv_bipush (v := 16) hx hb dX7_sharedOf_103 (by decide) ?_
            refine lv_ishl hx hb dX7_sharedOf_105 ?_
            obtain rfl := Option.some.inj hf
            exact W.iret hx hb hr (fun t ht hW => ⟨⟨_, (), rfl, rfl, trivial⟩, hS.F ht⟩) hS.2.2 dX7_sharedOf_106
          · replace hf := x_in c_15 hf
            refine lv_iload hx hb dX7_sharedOf_96 (lv_at hl 1 rfl) ?_
            refine lv_goto (tgt := 103) hx hb dX7_sharedOf_98 (by decide) ?_
            refine lv_bipush (v := 16) hx hb dX7_sharedOf_103 (by decide) ?_
            refine lv_ishl hx hb dX7_sharedOf_105 ?_
            obtain rfl := Option.some.inj hf
            exact W.iret hx hb hr (fun t ht hW => ⟨⟨_, (), rfl, rfl, trivial⟩, hS.F ht⟩) hS.2.2 dX7_sharedOf_106
        · replace hf := x_in c_14 hf
          refine lv_iload hx hb dX7_sharedOf_78 (lv_at hl 1 rfl) ?_
          refine lv_goto (tgt := 87) hx hb dX7_sharedOf_80 (by decide) ?_
          refine lv_istore (lv' := [(8, .int r_8), (7, .int r_7), (6, .int r_8), (5, .int r_7), (4, .int (p2 &&& 65535)), (3, .int (p1 &&& 65535)), (0, .ref o7), (1, .int p1), (2, .int p2)]) hx hb dX7_sharedOf_87 hl (by decide) rfl (fun ls hl => ?_)
          refine lv_iload hx hb dX7_sharedOf_89 (lv_at hl 1 rfl) ?_
          refine lv_iload hx hb dX7_sharedOf_91 (lv_at hl 0 rfl) ?_
          refine lv_icmp_ge (tgt := 101) hx hb dX7_sharedOf_93 (by decide) (fun c_16 => ?_) (fun c_16 => ?_)
          · replace hf := x_ip c_16 hf
            refine lv_iload hx hb dX7_sharedOf_101 (lv_at hl 0 rfl) ?_
            refine lv_bipush (v := 16) hx hb dX7_sharedOf_103 (by decide) ?_
            refine lv_ishl hx hb dX7_sharedOf_105 ?_
            obtain rfl := Option.some.inj hf
            exact W.iret hx hb hr (fun t ht hW => ⟨⟨_, (), rfl, rfl, trivial⟩, hS.F ht⟩) hS.2.2 dX7_sharedOf_106
          · replace hf := x_in c_16 hf
            refine lv_iload hx hb dX7_sharedOf_96 (lv_at hl 1 rfl) ?_
            refine lv_goto (tgt := 103) hx hb dX7_sharedOf_98 (by decide) ?_
            refine lv_bipush (v := 16) hx hb dX7_sharedOf_103 (by decide) ?_
            refine lv_ishl hx hb dX7_sharedOf_105 ?_
            obtain rfl := Option.some.inj hf
            exact W.iret hx hb hr (fun t ht hW => ⟨⟨_, (), rfl, rfl, trivial⟩, hS.F ht⟩) hS.2.2 dX7_sharedOf_106
    · replace hf := x_ip c_9 hf
      refine lv_iload_n hx hb dX7_sharedOf_37 rfl (lv_at hl 3 rfl) ?_
      refine lv_aload_n hx hb dX7_sharedOf_38 rfl (lv_at hl 4 rfl) ?_
      refine va_get (D := (dC, dI)) (ci := 7) (v := .int v7_2) (C := RX7) (T := TX7) (N := 3) hx hb hts i_X7_sharedOf_0_X7 hown hK hP 0 rfl rfl 2 (by decide) k_4 (fun _ h9 => h9) rfl dX7_sharedOf_39 ?_
      refine lv_icmp_ge (tgt := 54) hx hb dX7_sharedOf_42 (by decide) (fun c_17 => ?_) (fun c_17 => ?_)
      · replace hf := x_ip c_17 hf
        refine lv_iload_n hx hb dX7_sharedOf_54 rfl (lv_at hl 3 rfl) ?_
        refine lv_ldc (v := 65528) hx hb hown k_3 dX7_sharedOf_55 ?_
        refine lv_icmp_ge (tgt := 65) hx hb dX7_sharedOf_57 (by decide) (fun c_18 => ?_) (fun c_18 => ?_)
        · replace hf := x_ip c_18 hf
          refine lv_iload hx hb dX7_sharedOf_65 (lv_at hl 1 rfl) ?_
          refine lv_iconst (v := 1) hx hb dX7_sharedOf_67 (by decide) ?_
          refine lv_isub hx hb dX7_sharedOf_68 ?_
          refine lv_istore (lv' := [(7, .int (r_7 - (1 : Int32))), (6, .int r_8), (5, .int r_7), (4, .int (p2 &&& 65535)), (3, .int (p1 &&& 65535)), (0, .ref o7), (1, .int p1), (2, .int p2)]) hx hb dX7_sharedOf_69 hl (by decide) rfl (fun ls hl => ?_)
          refine lv_iload hx hb dX7_sharedOf_71 (lv_at hl 3 rfl) ?_
          refine lv_ldc (v := 65528) hx hb hown k_3 dX7_sharedOf_73 ?_
          refine lv_icmp_ge (tgt := 83) hx hb dX7_sharedOf_75 (by decide) (fun c_19 => ?_) (fun c_19 => ?_)
          · replace hf := x_ip c_19 hf
            refine lv_iload hx hb dX7_sharedOf_83 (lv_at hl 1 rfl) ?_
            refine lv_iconst (v := 1) hx hb dX7_sharedOf_85 (by decide) ?_
            refine lv_isub hx hb dX7_sharedOf_86 ?_
            refine lv_istore (lv' := [(8, .int (r_8 - (1 : Int32))), (7, .int (r_7 - (1 : Int32))), (6, .int r_8), (5, .int r_7), (4, .int (p2 &&& 65535)), (3, .int (p1 &&& 65535)), (0, .ref o7), (1, .int p1), (2, .int p2)]) hx hb dX7_sharedOf_87 hl (by decide) rfl (fun ls hl => ?_)
            refine lv_iload hx hb dX7_sharedOf_89 (lv_at hl 1 rfl) ?_
            refine lv_iload hx hb dX7_sharedOf_91 (lv_at hl 0 rfl) ?_
            refine lv_icmp_ge (tgt := 101) hx hb dX7_sharedOf_93 (by decide) (fun c_20 => ?_) (fun c_20 => ?_)
            · replace hf := x_ip c_20 hf
              refine lv_iload hx hb dX7_sharedOf_101 (lv_at hl 0 rfl) ?_
              refine lv_bipush (v := 16) hx hb dX7_sharedOf_103 (by decide) ?_
              refine lv_ishl hx hb dX7_sharedOf_105 ?_
              obtain rfl := Option.some.inj hf
              exact W.iret hx hb hr (fun t ht hW => ⟨⟨_, (), rfl, rfl, trivial⟩, hS.F ht⟩) hS.2.2 dX7_sharedOf_106
            · replace hf := x_in c_20 hf
              refine lv_iload hx hb dX7_sharedOf_96 (lv_at hl 1 rfl) ?_
              refine lv_goto (tgt := 103) hx hb dX7_sharedOf_98 (by decide) ?_
              refine lv_bipush (v := 16) hx hb dX7_sharedOf_103 (by decide) ?_
              refine lv_ishl hx hb dX7_sharedOf_105 ?_
              obtain rfl := Option.some.inj hf
              exact W.iret hx hb hr (fun t ht hW => ⟨⟨_, (), rfl, rfl, trivial⟩, hS.F ht⟩) hS.2.2 dX7_sharedOf_106
          · replace hf := x_in c_19 hf
            refine lv_iload hx hb dX7_sharedOf_78 (lv_at hl 1 rfl) ?_
            refine lv_goto (tgt := 87) hx hb dX7_sharedOf_80 (by decide) ?_
            refine lv_istore (lv' := [(8, .int r_8), (7, .int (r_7 - (1 : Int32))), (6, .int r_8), (5, .int r_7), (4, .int (p2 &&& 65535)), (3, .int (p1 &&& 65535)), (0, .ref o7), (1, .int p1), (2, .int p2)]) hx hb dX7_sharedOf_87 hl (by decide) rfl (fun ls hl => ?_)
            refine lv_iload hx hb dX7_sharedOf_89 (lv_at hl 1 rfl) ?_
            refine lv_iload hx hb dX7_sharedOf_91 (lv_at hl 0 rfl) ?_
            refine lv_icmp_ge (tgt := 101) hx hb dX7_sharedOf_93 (by decide) (fun c_21 => ?_) (fun c_21 => ?_)
            · replace hf := x_ip c_21 hf
              refine lv_iload hx hb dX7_sharedOf_101 (lv_at hl 0 rfl) ?_
              refine lv_bipush (v := 16) hx hb dX7_sharedOf_103 (by decide) ?_
              refine lv_ishl hx hb dX7_sharedOf_105 ?_
              obtain rfl := Option.some.inj hf
              exact W.iret hx hb hr (fun t ht hW => ⟨⟨_, (), rfl, rfl, trivial⟩, hS.F ht⟩) hS.2.2 dX7_sharedOf_106
            · replace hf := x_in c_21 hf
              refine lv_iload hx hb dX7_sharedOf_96 (lv_at hl 1 rfl) ?_
              refine lv_goto (tgt := 103) hx hb dX7_sharedOf_98 (by decide) ?_
              refine lv_bipush (v := 16) hx hb dX7_sharedOf_103 (by decide) ?_
              refine lv_ishl hx hb dX7_sharedOf_105 ?_
              obtain rfl := Option.some.inj hf
              exact W.iret hx hb hr (fun t ht hW => ⟨⟨_, (), rfl, rfl, trivial⟩, hS.F ht⟩) hS.2.2 dX7_sharedOf_106
        · replace hf := x_in c_18 hf
          refine lv_iload hx hb dX7_sharedOf_60 (lv_at hl 1 rfl) ?_
          refine lv_goto (tgt := 69) hx hb dX7_sharedOf_62 (by decide) ?_
          refine lv_istore (lv' := [(7, .int r_7), (6, .int r_8), (5, .int r_7), (4, .int (p2 &&& 65535)), (3, .int (p1 &&& 65535)), (0, .ref o7), (1, .int p1), (2, .int p2)]) hx hb dX7_sharedOf_69 hl (by decide) rfl (fun ls hl => ?_)
          refine lv_iload hx hb dX7_sharedOf_71 (lv_at hl 3 rfl) ?_
          refine lv_ldc (v := 65528) hx hb hown k_3 dX7_sharedOf_73 ?_
          refine lv_icmp_ge (tgt := 83) hx hb dX7_sharedOf_75 (by decide) (fun c_22 => ?_) (fun c_22 => ?_)
          · replace hf := x_ip c_22 hf
            refine lv_iload hx hb dX7_sharedOf_83 (lv_at hl 1 rfl) ?_
            refine lv_iconst (v := 1) hx hb dX7_sharedOf_85 (by decide) ?_
            refine lv_isub hx hb dX7_sharedOf_86 ?_
            refine lv_istore (lv' := [(8, .int (r_8 - (1 : Int32))), (7, .int r_7), (6, .int r_8), (5, .int r_7), (4, .int (p2 &&& 65535)), (3, .int (p1 &&& 65535)), (0, .ref o7), (1, .int p1), (2, .int p2)]) hx hb dX7_sharedOf_87 hl (by decide) rfl (fun ls hl => ?_)
            refine lv_iload hx hb dX7_sharedOf_89 (lv_at hl 1 rfl) ?_
            refine lv_iload hx hb dX7_sharedOf_91 (lv_at hl 0 rfl) ?_
            refine lv_icmp_ge (tgt := 101) hx hb dX7_sharedOf_93 (by decide) (fun c_23 => ?_) (fun c_23 => ?_)
            · replace hf := x_ip c_23 hf
              refine lv_iload hx hb dX7_sharedOf_101 (lv_at hl 0 rfl) ?_
              refine lv_bipush (v := 16) hx hb dX7_sharedOf_103 (by decide) ?_
              refine lv_ishl hx hb dX7_sharedOf_105 ?_
              obtain rfl := Option.some.inj hf
              exact W.iret hx hb hr (fun t ht hW => ⟨⟨_, (), rfl, rfl, trivial⟩, hS.F ht⟩) hS.2.2 dX7_sharedOf_106
            · replace hf := x_in c_23 hf
              refine lv_iload hx hb dX7_sharedOf_96 (lv_at hl 1 rfl) ?_
              refine lv_goto (tgt := 103) hx hb dX7_sharedOf_98 (by decide) ?_
              refine lv_bipush (v := 16) hx hb dX7_sharedOf_103 (by decide) ?_
              refine lv_ishl hx hb dX7_sharedOf_105 ?_
              obtain rfl := Option.some.inj hf
              exact W.iret hx hb hr (fun t ht hW => ⟨⟨_, (), rfl, rfl, trivial⟩, hS.F ht⟩) hS.2.2 dX7_sharedOf_106
          · replace hf := x_in c_22 hf
            refine lv_iload hx hb dX7_sharedOf_78 (lv_at hl 1 rfl) ?_
            refine lv_goto (tgt := 87) hx hb dX7_sharedOf_80 (by decide) ?_
            refine lv_istore (lv' := [(8, .int r_8), (7, .int r_7), (6, .int r_8), (5, .int r_7), (4, .int (p2 &&& 65535)), (3, .int (p1 &&& 65535)), (0, .ref o7), (1, .int p1), (2, .int p2)]) hx hb dX7_sharedOf_87 hl (by decide) rfl (fun ls hl => ?_)
            refine lv_iload hx hb dX7_sharedOf_89 (lv_at hl 1 rfl) ?_
            refine lv_iload hx hb dX7_sharedOf_91 (lv_at hl 0 rfl) ?_
            refine lv_icmp_ge (tgt := 101) hx hb dX7_sharedOf_93 (by decide) (fun c_24 => ?_) (fun c_24 => ?_)
            · replace hf := x_ip c_24 hf
              refine lv_iload hx hb dX7_sharedOf_101 (lv_at hl 0 rfl) ?_
              refine lv_bipush (v := 16) hx hb dX7_sharedOf_103 (by decide) ?_
              refine lv_ishl hx hb dX7_sharedOf_105 ?_
              obtain rfl := Option.some.inj hf
              exact W.iret hx hb hr (fun t ht hW => ⟨⟨_, (), rfl, rfl, trivial⟩, hS.F ht⟩) hS.2.2 dX7_sharedOf_106
            · replace hf := x_in c_24 hf
              refine lv_iload hx hb dX7_sharedOf_96 (lv_at hl 1 rfl) ?_
              refine lv_goto (tgt := 103) hx hb dX7_sharedOf_98 (by decide) ?_
              refine lv_bipush (v := 16) hx hb dX7_sharedOf_103 (by decide) ?_
              refine lv_ishl hx hb dX7_sharedOf_105 ?_
              obtain rfl := Option.some.inj hf
              exact W.iret hx hb hr (fun t ht hW => ⟨⟨_, (), rfl, rfl, trivial⟩, hS.F ht⟩) hS.2.2 dX7_sharedOf_106
      · replace hf := x_in c_17 hf
        refine lv_iload hx hb dX7_sharedOf_45 (lv_at hl 2 rfl) ?_
        refine lv_aload_n hx hb dX7_sharedOf_47 rfl (lv_at hl 4 rfl) ?_
        refine va_get (D := (dC, dI)) (ci := 7) (v := .int v7_2) (C := RX7) (T := TX7) (N := 3) hx hb hts i_X7_sharedOf_0_X7 hown hK hP 0 rfl rfl 2 (by decide) k_4 (fun _ h9 => h9) rfl dX7_sharedOf_48 ?_
        refine lv_icmp_lt (tgt := 107) hx hb dX7_sharedOf_51 (by decide) (fun c_25 => ?_) (fun c_25 => ?_)
        · replace hf := x_ip c_25 hf
          refine lv_iconst (v := 0) hx hb dX7_sharedOf_107 (by decide) ?_
          refine lv_istore (lv' := [(7, .int 0), (6, .int r_8), (5, .int r_7), (4, .int (p2 &&& 65535)), (3, .int (p1 &&& 65535)), (0, .ref o7), (1, .int p1), (2, .int p2)]) hx hb dX7_sharedOf_108 hl (by decide) rfl (fun ls hl => ?_)
          exact (hWW _ _ _ _ _).mpr ((J r_7 (0, p1 &&& 65535, p2 &&& 65535, 0) _ hf rfl _ _ _ _ rfl) rfl H locs ls hP hS (lv_sub hl [5, 4, 3, 2, 0] rfl))
        · replace hf := x_in c_25 hf
          refine lv_iload_n hx hb dX7_sharedOf_54 rfl (lv_at hl 3 rfl) ?_
          refine lv_ldc (v := 65528) hx hb hown k_3 dX7_sharedOf_55 ?_
          refine lv_icmp_ge (tgt := 65) hx hb dX7_sharedOf_57 (by decide) (fun c_26 => ?_) (fun c_26 => ?_)
          · replace hf := x_ip c_26 hf
            refine lv_iload hx hb dX7_sharedOf_65 (lv_at hl 1 rfl) ?_
            refine lv_iconst (v := 1) hx hb dX7_sharedOf_67 (by decide) ?_
            refine lv_isub hx hb dX7_sharedOf_68 ?_
            refine lv_istore (lv' := [(7, .int (r_7 - (1 : Int32))), (6, .int r_8), (5, .int r_7), (4, .int (p2 &&& 65535)), (3, .int (p1 &&& 65535)), (0, .ref o7), (1, .int p1), (2, .int p2)]) hx hb dX7_sharedOf_69 hl (by decide) rfl (fun ls hl => ?_)
            refine lv_iload hx hb dX7_sharedOf_71 (lv_at hl 3 rfl) ?_
            refine lv_ldc (v := 65528) hx hb hown k_3 dX7_sharedOf_73 ?_
            refine lv_icmp_ge (tgt := 83) hx hb dX7_sharedOf_75 (by decide) (fun c_27 => ?_) (fun c_27 => ?_)
            · replace hf := x_ip c_27 hf
              refine lv_iload hx hb dX7_sharedOf_83 (lv_at hl 1 rfl) ?_
              refine lv_iconst (v := 1) hx hb dX7_sharedOf_85 (by decide) ?_
              refine lv_isub hx hb dX7_sharedOf_86 ?_
              refine lv_istore (lv' := [(8, .int (r_8 - (1 : Int32))), (7, .int (r_7 - (1 : Int32))), (6, .int r_8), (5, .int r_7), (4, .int (p2 &&& 65535)), (3, .int (p1 &&& 65535)), (0, .ref o7), (1, .int p1), (2, .int p2)]) hx hb dX7_sharedOf_87 hl (by decide) rfl (fun ls hl => ?_)
              refine lv_iload hx hb dX7_sharedOf_89 (lv_at hl 1 rfl) ?_
              refine lv_iload hx hb dX7_sharedOf_91 (lv_at hl 0 rfl) ?_
              refine lv_icmp_ge (tgt := 101) hx hb dX7_sharedOf_93 (by decide) (fun c_28 => ?_) (fun c_28 => ?_)
              · replace hf := x_ip c_28 hf
                refine lv_iload hx hb dX7_sharedOf_101 (lv_at hl 0 rfl) ?_
                refine lv_bipush (v := 16) hx hb dX7_sharedOf_103 (by decide) ?_
                refine lv_ishl hx hb dX7_sharedOf_105 ?_
                obtain rfl := Option.some.inj hf
                exact W.iret hx hb hr (fun t ht hW => ⟨⟨_, (), rfl, rfl, trivial⟩, hS.F ht⟩) hS.2.2 dX7_sharedOf_106
              · replace hf := x_in c_28 hf
                refine lv_iload hx hb dX7_sharedOf_96 (lv_at hl 1 rfl) ?_
                refine lv_goto (tgt := 103) hx hb dX7_sharedOf_98 (by decide) ?_
                refine lv_bipush (v := 16) hx hb dX7_sharedOf_103 (by decide) ?_
                refine lv_ishl hx hb dX7_sharedOf_105 ?_
                obtain rfl := Option.some.inj hf
                exact W.iret hx hb hr (fun t ht hW => ⟨⟨_, (), rfl, rfl, trivial⟩, hS.F ht⟩) hS.2.2 dX7_sharedOf_106
            · replace hf := x_in c_27 hf
              refine lv_iload hx hb dX7_sharedOf_78 (lv_at hl 1 rfl) ?_
              refine lv_goto (tgt := 87) hx hb dX7_sharedOf_80 (by decide) ?_
              refine lv_istore (lv' := [(8, .int r_8), (7, .int (r_7 - (1 : Int32))), (6, .int r_8), (5, .int r_7), (4, .int (p2 &&& 65535)), (3, .int (p1 &&& 65535)), (0, .ref o7), (1, .int p1), (2, .int p2)]) hx hb dX7_sharedOf_87 hl (by decide) rfl (fun ls hl => ?_)
              refine lv_iload hx hb dX7_sharedOf_89 (lv_at hl 1 rfl) ?_
              refine lv_iload hx hb dX7_sharedOf_91 (lv_at hl 0 rfl) ?_
              refine lv_icmp_ge (tgt := 101) hx hb dX7_sharedOf_93 (by decide) (fun c_29 => ?_) (fun c_29 => ?_)
              · replace hf := x_ip c_29 hf
                refine lv_iload hx hb dX7_sharedOf_101 (lv_at hl 0 rfl) ?_
                refine lv_bipush (v := 16) hx hb dX7_sharedOf_103 (by decide) ?_
                refine lv_ishl hx hb dX7_sharedOf_105 ?_
                obtain rfl := Option.some.inj hf
                exact W.iret hx hb hr (fun t ht hW => ⟨⟨_, (), rfl, rfl, trivial⟩, hS.F ht⟩) hS.2.2 dX7_sharedOf_106
              · replace hf := x_in c_29 hf
                refine lv_iload hx hb dX7_sharedOf_96 (lv_at hl 1 rfl) ?_
                refine lv_goto (tgt := 103) hx hb dX7_sharedOf_98 (by decide) ?_
                refine lv_bipush (v := 16) hx hb dX7_sharedOf_103 (by decide) ?_
                refine lv_ishl hx hb dX7_sharedOf_105 ?_
                obtain rfl := Option.some.inj hf
                exact W.iret hx hb hr (fun t ht hW => ⟨⟨_, (), rfl, rfl, trivial⟩, hS.F ht⟩) hS.2.2 dX7_sharedOf_106
          · replace hf := x_in c_26 hf
            refine lv_iload hx hb dX7_sharedOf_60 (lv_at hl 1 rfl) ?_
            refine lv_goto (tgt := 69) hx hb dX7_sharedOf_62 (by decide) ?_
            refine lv_istore (lv' := [(7, .int r_7), (6, .int r_8), (5, .int r_7), (4, .int (p2 &&& 65535)), (3, .int (p1 &&& 65535)), (0, .ref o7), (1, .int p1), (2, .int p2)]) hx hb dX7_sharedOf_69 hl (by decide) rfl (fun ls hl => ?_)
            refine lv_iload hx hb dX7_sharedOf_71 (lv_at hl 3 rfl) ?_
            refine lv_ldc (v := 65528) hx hb hown k_3 dX7_sharedOf_73 ?_
            refine lv_icmp_ge (tgt := 83) hx hb dX7_sharedOf_75 (by decide) (fun c_30 => ?_) (fun c_30 => ?_)
            · replace hf := x_ip c_30 hf
              refine lv_iload hx hb dX7_sharedOf_83 (lv_at hl 1 rfl) ?_
              refine lv_iconst (v := 1) hx hb dX7_sharedOf_85 (by decide) ?_
              refine lv_isub hx hb dX7_sharedOf_86 ?_
              refine lv_istore (lv' := [(8, .int (r_8 - (1 : Int32))), (7, .int r_7), (6, .int r_8), (5, .int r_7), (4, .int (p2 &&& 65535)), (3, .int (p1 &&& 65535)), (0, .ref o7), (1, .int p1), (2, .int p2)]) hx hb dX7_sharedOf_87 hl (by decide) rfl (fun ls hl => ?_)
              refine lv_iload hx hb dX7_sharedOf_89 (lv_at hl 1 rfl) ?_
              refine lv_iload hx hb dX7_sharedOf_91 (lv_at hl 0 rfl) ?_
              refine lv_icmp_ge (tgt := 101) hx hb dX7_sharedOf_93 (by decide) (fun c_31 => ?_) (fun c_31 => ?_)
              · replace hf := x_ip c_31 hf
                refine lv_iload hx hb dX7_sharedOf_101 (lv_at hl 0 rfl) ?_
                refine lv_bipush (v := 16) hx hb dX7_sharedOf_103 (by decide) ?_
                refine lv_ishl hx hb dX7_sharedOf_105 ?_
                obtain rfl := Option.some.inj hf
                exact W.iret hx hb hr (fun t ht hW => ⟨⟨_, (), rfl, rfl, trivial⟩, hS.F ht⟩) hS.2.2 dX7_sharedOf_106
              · replace hf := x_in c_31 hf
                refine lv_iload hx hb dX7_sharedOf_96 (lv_at hl 1 rfl) ?_
                refine lv_goto (tgt := 103) hx hb dX7_sharedOf_98 (by decide) ?_
                refine lv_bipush (v := 16) hx hb dX7_sharedOf_103 (by decide) ?_
                refine lv_ishl hx hb dX7_sharedOf_105 ?_
                obtain rfl := Option.some.inj hf
                exact W.iret hx hb hr (fun t ht hW => ⟨⟨_, (), rfl, rfl, trivial⟩, hS.F ht⟩) hS.2.2 dX7_sharedOf_106
            · replace hf := x_in c_30 hf
              refine lv_iload hx hb dX7_sharedOf_78 (lv_at hl 1 rfl) ?_
              refine lv_goto (tgt := 87) hx hb dX7_sharedOf_80 (by decide) ?_
              refine lv_istore (lv' := [(8, .int r_8), (7, .int r_7), (6, .int r_8), (5, .int r_7), (4, .int (p2 &&& 65535)), (3, .int (p1 &&& 65535)), (0, .ref o7), (1, .int p1), (2, .int p2)]) hx hb dX7_sharedOf_87 hl (by decide) rfl (fun ls hl => ?_)
              refine lv_iload hx hb dX7_sharedOf_89 (lv_at hl 1 rfl) ?_
              refine lv_iload hx hb dX7_sharedOf_91 (lv_at hl 0 rfl) ?_
              refine lv_icmp_ge (tgt := 101) hx hb dX7_sharedOf_93 (by decide) (fun c_32 => ?_) (fun c_32 => ?_)
              · replace hf := x_ip c_32 hf
                refine lv_iload hx hb dX7_sharedOf_101 (lv_at hl 0 rfl) ?_
                refine lv_bipush (v := 16) hx hb dX7_sharedOf_103 (by decide) ?_
                refine lv_ishl hx hb dX7_sharedOf_105 ?_
                obtain rfl := Option.some.inj hf
                exact W.iret hx hb hr (fun t ht hW => ⟨⟨_, (), rfl, rfl, trivial⟩, hS.F ht⟩) hS.2.2 dX7_sharedOf_106
              · replace hf := x_in c_32 hf
                refine lv_iload hx hb dX7_sharedOf_96 (lv_at hl 1 rfl) ?_
                refine lv_goto (tgt := 103) hx hb dX7_sharedOf_98 (by decide) ?_
                refine lv_bipush (v := 16) hx hb dX7_sharedOf_103 (by decide) ?_
                refine lv_ishl hx hb dX7_sharedOf_105 ?_
                obtain rfl := Option.some.inj hf
                exact W.iret hx hb hr (fun t ht hW => ⟨⟨_, (), rfl, rfl, trivial⟩, hS.F ht⟩) hS.2.2 dX7_sharedOf_106
  · replace hf := x_ip c_6 hf
    refine lv_iload_n hx hb dX7_sharedOf_5 rfl (lv_at hl 1 rfl) ?_
    obtain rfl := Option.some.inj hf
    exact W.iret hx hb hr (fun t ht hW => ⟨⟨_, (), rfl, rfl, trivial⟩, hS.F ht⟩) hS.2.2 dX7_sharedOf_6

def f_X7_sharedOf_L (v7_2 : Int32) (g7_0 : Nat → Int32) (l5 : Int32) (z : Nat × Int32 × Int32 × Int32) : Option (Int32) := match z with
  | (q, l3, l4, l7) => if q = 0 then if (400 : Int32) ≤ l7 then some ((l5 <<< (16 &&& 31)) + l3) else if l3 = l4 then some ((l5 <<< (16 &&& 31)) + l3) else if l3 ≤ l4 then if x_gd l4 200 = true then (f_X7_sharedOf_L v7_2 g7_0 l5 (0, l3, g7_0 (Int32.toNatClampNeg l4), l7 + 1)) else none else if x_gd l3 200 = true then (f_X7_sharedOf_L v7_2 g7_0 l5 (0, g7_0 (Int32.toNatClampNeg l3), l4, l7 + 1)) else none else none
partial_fixpoint
def f_X7_sharedOf (v7_2 : Int32) (g7_0 : Nat → Int32) (p1 : Int32) (p2 : Int32) : Option (Int32) := if p1 = p2 then some p1 else (f_X7_dimensionsOf p1) >>= (fun r_7 => (f_X7_dimensionsOf p2) >>= (fun r_8 => if r_7 = r_8 then if v7_2 ≤ (p1 &&& 65535) then if (65528 : Int32) ≤ (p1 &&& 65535) then if (65528 : Int32) ≤ (p2 &&& 65535) then if (r_8 - (1 : Int32)) ≤ (r_7 - (1 : Int32)) then some ((r_8 - (1 : Int32)) <<< (16 &&& 31)) else some ((r_7 - (1 : Int32)) <<< (16 &&& 31)) else if r_8 ≤ (r_7 - (1 : Int32)) then some (r_8 <<< (16 &&& 31)) else some ((r_7 - (1 : Int32)) <<< (16 &&& 31)) else if (65528 : Int32) ≤ (p2 &&& 65535) then if (r_8 - (1 : Int32)) ≤ r_7 then some ((r_8 - (1 : Int32)) <<< (16 &&& 31)) else some (r_7 <<< (16 &&& 31)) else if r_8 ≤ r_7 then some (r_8 <<< (16 &&& 31)) else some (r_7 <<< (16 &&& 31)) else if (p2 &&& 65535) < v7_2 then (f_X7_sharedOf_L v7_2 g7_0 r_7 (0, p1 &&& 65535, p2 &&& 65535, 0)) else if (65528 : Int32) ≤ (p1 &&& 65535) then if (65528 : Int32) ≤ (p2 &&& 65535) then if (r_8 - (1 : Int32)) ≤ (r_7 - (1 : Int32)) then some ((r_8 - (1 : Int32)) <<< (16 &&& 31)) else some ((r_7 - (1 : Int32)) <<< (16 &&& 31)) else if r_8 ≤ (r_7 - (1 : Int32)) then some (r_8 <<< (16 &&& 31)) else some ((r_7 - (1 : Int32)) <<< (16 &&& 31)) else if (65528 : Int32) ≤ (p2 &&& 65535) then if (r_8 - (1 : Int32)) ≤ r_7 then some ((r_8 - (1 : Int32)) <<< (16 &&& 31)) else some (r_7 <<< (16 &&& 31)) else if r_8 ≤ r_7 then some (r_8 <<< (16 &&& 31)) else some (r_7 <<< (16 &&& 31)) else if (65528 : Int32) ≤ (p1 &&& 65535) then if (65528 : Int32) ≤ (p2 &&& 65535) then if (r_8 - (1 : Int32)) ≤ (r_7 - (1 : Int32)) then some ((r_8 - (1 : Int32)) <<< (16 &&& 31)) else some ((r_7 - (1 : Int32)) <<< (16 &&& 31)) else if r_8 ≤ (r_7 - (1 : Int32)) then some (r_8 <<< (16 &&& 31)) else some ((r_7 - (1 : Int32)) <<< (16 &&& 31)) else if (65528 : Int32) ≤ (p2 &&& 65535) then if (r_8 - (1 : Int32)) ≤ r_7 then some ((r_8 - (1 : Int32)) <<< (16 &&& 31)) else some (r_7 <<< (16 &&& 31)) else if r_8 ≤ r_7 then some (r_8 <<< (16 &&& 31)) else some (r_7 <<< (16 &&& 31))))
theorem i_X7_sharedOf_X7 : ∀ w ∈ wsX70, w ∈ wsX7_sharedOf := fun _ h => List.mem_cons_of_mem _ (List.mem_append_right _ h)
set_option maxHeartbeats 4000000 in
set_option maxRecDepth 100000 in
theorem c_X7_sharedOf (l : Launch) (dC : Nat → ClassId) (dI : Nat → Nat → Nat) (cyI cyZ cyJ : ClassId) (sz : Nat) (o7 : Nat) (a7_0 : Nat) (a7_1 : Nat) (v7_2 : Int32) (g7_0 : Nat → Int32) (p1 : Int32) (p2 : Int32) (R : Int32) (hf : f_X7_sharedOf v7_2 g7_0 p1 p2 = some R) : Met l yX7_sharedOf wsX7_sharedOf ({ frames := 1, cells := 0, slots := 0, locals := 20 }) (va_Pc [.ref o7, .int p1, .int p2] (x_Pre (dC, dI) (x_T cyI cyZ cyJ) [(o7, .inr (7, [.ref a7_0, .ref a7_1, .int v7_2])), (a7_0, .inl (cyI, 200, .inl g7_0))] sz)) (va_Qi (fun (r : Int32) (_ : Unit) => r = R) (fun _ _ => True) (x_new sz)) 0 0 (x_new sz) := by
  refine Met.ofW (cc := cX7_sharedOf) (maxL := 9) (ret := (some .int)) (by decide) rfl ?_
  intro p e s m args below meth c s₁ B hml hv
  obtain ⟨rfl, hsz, hP, hK, hN⟩ := hv
  have hx := B.exec
  have hb := B.bytes
  have hr := B.returns
  have hts := atoms_spec (ws := wsX7_sharedOf) B.pre
  have hown : s.vm.findClass RX7 = some m.cls := findClass_of_methodNamed B.named
  have k_1 := hts (.fieldLink RX7 9 "FlowJudge$Types" "above" "[I") (by decide +kernel)
  have k_2 := hts (.constant RX7 23 (65535)) (by decide +kernel)
  have k_3 := hts (.constant RX7 28 (65528)) (by decide +kernel)
  have k_4 := hts (.fieldLink RX7 19 "FlowJudge$Types" "count" "I") (by decide +kernel)
  subst hsz
  have hA : ∀ q : Nat, s.heap.size ≤ q → x_new s.heap.size q := fun _ h => h
  have hS : va_S (x_new s.heap.size) s.heap s.heap [] := va_S.rf
  have hP : va_P (dC, dI) vwCl [(o7, .inr (7, [.ref a7_0, .ref a7_1, .int v7_2])), (a7_0, .inl (cyI, 200, .inl g7_0))] s.heap := hP
  have hl := lv_entry ([.ref o7, .int p1, .int p2]) (n := 9) (Nat.le_of_ble_eq_true rfl)
  rw [lg_entry_eq]
  generalize (lg_sl ([.ref o7, .int p1, .int p2]) ++ List.replicate (9 - (lg_sl ([.ref o7, .int p1, .int p2])).length) Slot.unset).toArray = ls at hl ⊢
  have hl : lv_has ls 9 [(0, .ref o7), (1, .int p1), (2, .int p2)] := hl
  obtain ⟨H, hH⟩ : ∃ z, z = s.heap := ⟨_, rfl⟩
  refine x_here hH ?_
  have hP : va_P (dC, dI) vwCl [(o7, .inr (7, [.ref a7_0, .ref a7_1, .int v7_2])), (a7_0, .inl (cyI, 200, .inl g7_0))] H := by rw [hH]; exact hP
  have hS : va_S (x_new s.heap.size) s.heap H [] := by rw [hH]; exact va_S.rf
  clear hH
  obtain ⟨locs, hlo⟩ : ∃ z : List Loc, z = [] := ⟨_, rfl⟩
  refine x_herl hlo ?_
  have hS : va_S (x_new s.heap.size) s.heap H locs := by rw [hlo]; exact hS
  clear hlo
  unfold f_X7_sharedOf at hf
  refine x_wn (fun WW hWW => ?_)
  have J := fun (l5 : Int32) => f_X7_sharedOf_L.partial_correctness v7_2 g7_0 l5 (fun (z : Nat × Int32 × Int32 × Int32) (r : Int32) => r = R → ∀ (q : Nat) (l3 : Int32) (l4 : Int32) (l7 : Int32), z = (q, l3, l4, l7) → ((q = 0 → ∀ (H : Heap) (locs : List Loc) (ls : Array Slot), va_P (dC, dI) vwCl [(o7, .inr (7, [.ref a7_0, .ref a7_1, .int v7_2])), (a7_0, .inl (cyI, 200, .inl g7_0))] H → va_S (x_new s.heap.size) s.heap H locs → lv_has ls 9 [(0, .ref o7), (3, .int l3), (4, .int l4), (5, .int l5), (7, .int l7)] → WW H locs 0 0 (F0 m 110 ls [])))) (by
    intro F ih z r hf hr q l3 l4 l7 hz
    subst hz
    obtain rfl := hr
    · intro hq H locs ls hP hS hl
      subst hq
      refine (hWW _ _ _ _ _).mp ?_
      replace hf := x_ip rfl hf
      refine lv_iload hx hb dX7_sharedOf_110 (lv_at hl 4 rfl) ?_
      refine lv_sipush (v := 400) hx hb dX7_sharedOf_112 (by decide) ?_
      refine lv_icmp_ge (tgt := 155) hx hb dX7_sharedOf_115 (by decide) (fun c_1 => ?_) (fun c_1 => ?_)
      · replace hf := x_ip c_1 hf
        refine lv_iload hx hb dX7_sharedOf_155 (lv_at hl 3 rfl) ?_
        refine lv_bipush (v := 16) hx hb dX7_sharedOf_157 (by decide) ?_
        refine lv_ishl hx hb dX7_sharedOf_159 ?_
        refine lv_iload_n hx hb dX7_sharedOf_160 rfl (lv_at hl 1 rfl) ?_
        refine lv_iadd hx hb dX7_sharedOf_161 ?_
        obtain rfl := Option.some.inj hf
        exact W.iret hx hb hr (fun t ht hW => ⟨⟨_, (), rfl, rfl, trivial⟩, hS.F ht⟩) hS.2.2 dX7_sharedOf_162
      · replace hf := x_in c_1 hf
        refine lv_iload_n hx hb dX7_sharedOf_118 rfl (lv_at hl 1 rfl) ?_
        refine lv_iload hx hb dX7_sharedOf_119 (lv_at hl 2 rfl) ?_
        refine lv_icmp_eq (tgt := 155) hx hb dX7_sharedOf_121 (by decide) (fun c_2 => ?_) (fun c_2 => ?_)
        · replace hf := x_ip c_2 hf
          refine lv_iload hx hb dX7_sharedOf_155 (lv_at hl 3 rfl) ?_
          refine lv_bipush (v := 16) hx hb dX7_sharedOf_157 (by decide) ?_
          refine lv_ishl hx hb dX7_sharedOf_159 ?_
          refine lv_iload_n hx hb dX7_sharedOf_160 rfl (lv_at hl 1 rfl) ?_
          refine lv_iadd hx hb dX7_sharedOf_161 ?_
          obtain rfl := Option.some.inj hf
          exact W.iret hx hb hr (fun t ht hW => ⟨⟨_, (), rfl, rfl, trivial⟩, hS.F ht⟩) hS.2.2 dX7_sharedOf_162
        · replace hf := x_in c_2 hf
          refine lv_iload_n hx hb dX7_sharedOf_124 rfl (lv_at hl 1 rfl) ?_
          refine lv_iload hx hb dX7_sharedOf_125 (lv_at hl 2 rfl) ?_
          refine lv_icmp_le (tgt := 140) hx hb dX7_sharedOf_127 (by decide) (fun c_3 => ?_) (fun c_3 => ?_)
          · replace hf := x_ip c_3 hf
            refine lv_aload_n hx hb dX7_sharedOf_140 rfl (lv_at hl 0 rfl) ?_
            refine va_get (D := (dC, dI)) (ci := 7) (v := .ref a7_0) (C := RX7) (T := TX7) (N := 3) hx hb hts i_X7_sharedOf_X7 hown hK hP 0 rfl rfl 0 (by decide) k_1 (fun _ h9 => h9) rfl dX7_sharedOf_141 ?_
            refine lv_iload hx hb dX7_sharedOf_144 (lv_at hl 2 rfl) ?_
            obtain ⟨g_4, hf⟩ := x_gu hf
            refine va_iald hx hb hK hP 1 0 rfl rfl (x_gdin g_4) dX7_sharedOf_146 ?_
            refine lv_istore (lv' := [(4, .int (g7_0 (Int32.toNatClampNeg l4))), (0, .ref o7), (3, .int l3), (5, .int l5), (7, .int l7)]) hx hb dX7_sharedOf_147 hl (by decide) rfl (fun ls hl => ?_)
            refine lv_iinc (v := (l7 + 1)) (lv' := [(7, .int (l7 + 1)), (4, .int (g7_0 (Int32.toNatClampNeg l4))), (0, .ref o7), (3, .int l3), (5, .int l5)]) hx hb dX7_sharedOf_149 hl (k := 4) rfl rfl (by decide) rfl (fun ls hl => ?_)
            refine lv_goto (tgt := 110) hx hb dX7_sharedOf_152 (by decide) ?_
            exact (hWW _ _ _ _ _).mpr ((ih (0, l3, g7_0 (Int32.toNatClampNeg l4), l7 + 1) _ hf rfl _ _ _ _ rfl) rfl H locs ls hP hS (lv_sub hl [2, 3, 1, 4, 0] rfl))
          · replace hf := x_in c_3 hf
            refine lv_aload_n hx hb dX7_sharedOf_130 rfl (lv_at hl 0 rfl) ?_
            refine va_get (D := (dC, dI)) (ci := 7) (v := .ref a7_0) (C := RX7) (T := TX7) (N := 3) hx hb hts i_X7_sharedOf_X7 hown hK hP 0 rfl rfl 0 (by decide) k_1 (fun _ h9 => h9) rfl dX7_sharedOf_131 ?_
            refine lv_iload_n hx hb dX7_sharedOf_134 rfl (lv_at hl 1 rfl) ?_
            obtain ⟨g_5, hf⟩ := x_gu hf
            refine va_iald hx hb hK hP 1 0 rfl rfl (x_gdin g_5) dX7_sharedOf_135 ?_
            refine lv_istore_n (lv' := [(3, .int (g7_0 (Int32.toNatClampNeg l3))), (0, .ref o7), (4, .int l4), (5, .int l5), (7, .int l7)]) hx hb dX7_sharedOf_136 rfl hl (by decide) rfl (fun ls hl => ?_)
            refine lv_goto (tgt := 149) hx hb dX7_sharedOf_137 (by decide) ?_
            refine lv_iinc (v := (l7 + 1)) (lv' := [(7, .int (l7 + 1)), (3, .int (g7_0 (Int32.toNatClampNeg l3))), (0, .ref o7), (4, .int l4), (5, .int l5)]) hx hb dX7_sharedOf_149 hl (k := 4) rfl rfl (by decide) rfl (fun ls hl => ?_)
            refine lv_goto (tgt := 110) hx hb dX7_sharedOf_152 (by decide) ?_
            exact (hWW _ _ _ _ _).mpr ((ih (0, g7_0 (Int32.toNatClampNeg l3), l4, l7 + 1) _ hf rfl _ _ _ _ rfl) rfl H locs ls hP hS (lv_sub hl [2, 1, 3, 4, 0] rfl)))
  refine lv_iload_n hx hb dX7_sharedOf_0 rfl (lv_at hl 1 rfl) ?_
  refine lv_iload_n hx hb dX7_sharedOf_1 rfl (lv_at hl 2 rfl) ?_
  refine lv_icmp_ne (tgt := 7) hx hb dX7_sharedOf_2 (by decide) (fun c_6 => ?_) (fun c_6 => ?_)
  · replace hf := x_in c_6 hf
    refine lv_iload_n hx hb dX7_sharedOf_7 rfl (lv_at hl 1 rfl) ?_
    refine lv_ldc (v := 65535) hx hb hown k_2 dX7_sharedOf_8 ?_
    refine lv_iand hx hb dX7_sharedOf_10 ?_
    refine lv_istore_n (lv' := [(3, .int (p1 &&& 65535)), (0, .ref o7), (1, .int p1), (2, .int p2)]) hx hb dX7_sharedOf_11 rfl hl (by decide) rfl (fun ls hl => ?_)
    refine lv_iload_n hx hb dX7_sharedOf_12 rfl (lv_at hl 3 rfl) ?_
    refine lv_ldc (v := 65535) hx hb hown k_2 dX7_sharedOf_13 ?_
    refine lv_iand hx hb dX7_sharedOf_15 ?_
    refine lv_istore (lv' := [(4, .int (p2 &&& 65535)), (3, .int (p1 &&& 65535)), (0, .ref o7), (1, .int p1), (2, .int p2)]) hx hb dX7_sharedOf_16 hl (by decide) rfl (fun ls hl => ?_)
    refine lv_iload_n hx hb dX7_sharedOf_18 rfl (lv_at hl 3 rfl) ?_
    obtain ⟨r_7, h_7, hf⟩ := x_bi hf
    have hPc := hP.sub (ws' := []) [] rfl
    refine va_calli (va_runS (As := [.int p1]) (rest := []) ⟨hx, hb, hml, hown, hts⟩ (c_X7_dimensionsOf l dC dI cyI cyZ cyJ H.size p1 r_7 h_7) (va_cwS 1 hts gX7_sharedOf_X7_dimensionsOf rfl rfl rfl (by decide +kernel) ⟨Nat.le_of_ble_eq_true rfl, Nat.le_of_ble_eq_true rfl⟩) (x_pS hN hK hPc) rfl rfl hl.1 rfl (lv_room (Nat.le_of_ble_eq_true rfl)) dX7_sharedOf_19 ⟨Nat.le_of_ble_eq_true rfl, Nat.le_of_ble_eq_true rfl⟩) hS x_nA (x_nf hA hS) (fun q_7 u t H1 locs ht hvm hw hB hz1 hk1 hS => ?_)
    have hP := x_kp hP hk1
    clear ht hvm hB hz1 hk1 t u hPc
    generalize H1 = H at hP hS ⊢
    obtain rfl := hw.symm
    refine lv_istore (lv' := [(5, .int r_7), (4, .int (p2 &&& 65535)), (3, .int (p1 &&& 65535)), (0, .ref o7), (1, .int p1), (2, .int p2)]) hx hb dX7_sharedOf_22 hl (by decide) rfl (fun ls hl => ?_)
    refine lv_iload_n hx hb dX7_sharedOf_24 rfl (lv_at hl 5 rfl) ?_
    obtain ⟨r_8, h_8, hf⟩ := x_bi hf
    have hPc := hP.sub (ws' := []) [] rfl
    refine va_calli (va_runS (As := [.int p2]) (rest := []) ⟨hx, hb, hml, hown, hts⟩ (c_X7_dimensionsOf l dC dI cyI cyZ cyJ H.size p2 r_8 h_8) (va_cwS 1 hts gX7_sharedOf_X7_dimensionsOf rfl rfl rfl (by decide +kernel) ⟨Nat.le_of_ble_eq_true rfl, Nat.le_of_ble_eq_true rfl⟩) (x_pS hN hK hPc) rfl rfl hl.1 rfl (lv_room (Nat.le_of_ble_eq_true rfl)) dX7_sharedOf_25 ⟨Nat.le_of_ble_eq_true rfl, Nat.le_of_ble_eq_true rfl⟩) hS x_nA (x_nf hA hS) (fun q_8 u t H1 locs ht hvm hw hB hz1 hk1 hS => ?_)
    have hP := x_kp hP hk1
    clear ht hvm hB hz1 hk1 t u hPc
    generalize H1 = H at hP hS ⊢
    obtain rfl := hw.symm
    refine lv_istore (lv' := [(6, .int r_8), (5, .int r_7), (4, .int (p2 &&& 65535)), (3, .int (p1 &&& 65535)), (0, .ref o7), (1, .int p1), (2, .int p2)]) hx hb dX7_sharedOf_28 hl (by decide) rfl (fun ls hl => ?_)
    refine lv_iload hx hb dX7_sharedOf_30 (lv_at hl 1 rfl) ?_
    refine lv_iload hx hb dX7_sharedOf_32 (lv_at hl 0 rfl) ?_
    refine lv_icmp_ne (tgt := 54) hx hb dX7_sharedOf_34 (by decide) (fun c_9 => ?_) (fun c_9 => ?_)
    · replace hf := x_in c_9 hf
      refine lv_iload_n hx hb dX7_sharedOf_54 rfl (lv_at hl 3 rfl) ?_
      refine lv_ldc (v := 65528) hx hb hown k_3 dX7_sharedOf_55 ?_
      refine lv_icmp_ge (tgt := 65) hx hb dX7_sharedOf_57 (by decide) (fun c_10 => ?_) (fun c_10 => ?_)
      · replace hf := x_ip c_10 hf
        refine lv_iload hx hb dX7_sharedOf_65 (lv_at hl 1 rfl) ?_
        refine lv_iconst (v := 1) hx hb dX7_sharedOf_67 (by decide) ?_
        refine lv_isub hx hb dX7_sharedOf_68 ?_
        refine lv_istore (lv' := [(7, .int (r_7 - (1 : Int32))), (6, .int r_8), (5, .int r_7), (4, .int (p2 &&& 65535)), (3, .int (p1 &&& 65535)), (0, .ref o7), (1, .int p1), (2, .int p2)]) hx hb dX7_sharedOf_69 hl (by decide) rfl (fun ls hl => ?_)
        refine lv_iload hx hb dX7_sharedOf_71 (lv_at hl 3 rfl) ?_
        refine lv_ldc (v := 65528) hx hb hown k_3 dX7_sharedOf_73 ?_
        refine lv_icmp_ge (tgt := 83) hx hb dX7_sharedOf_75 (by decide) (fun c_11 => ?_) (fun c_11 => ?_)
        · replace hf := x_ip c_11 hf
          refine lv_iload hx hb dX7_sharedOf_83 (lv_at hl 1 rfl) ?_
          refine lv_iconst (v := 1) hx hb dX7_sharedOf_85 (by decide) ?_
          refine lv_isub hx hb dX7_sharedOf_86 ?_
          refine lv_istore (lv' := [(8, .int (r_8 - (1 : Int32))), (7, .int (r_7 - (1 : Int32))), (6, .int r_8), (5, .int r_7), (4, .int (p2 &&& 65535)), (3, .int (p1 &&& 65535)), (0, .ref o7), (1, .int p1), (2, .int p2)]) hx hb dX7_sharedOf_87 hl (by decide) rfl (fun ls hl => ?_)
          refine lv_iload hx hb dX7_sharedOf_89 (lv_at hl 1 rfl) ?_
          refine lv_iload hx hb dX7_sharedOf_91 (lv_at hl 0 rfl) ?_
          refine lv_icmp_ge (tgt := 101) hx hb dX7_sharedOf_93 (by decide) (fun c_12 => ?_) (fun c_12 => ?_)
          · replace hf := x_ip c_12 hf
            refine lv_iload hx hb dX7_sharedOf_101 (lv_at hl 0 rfl) ?_
            refine lv_bipush (v := 16) hx hb dX7_sharedOf_103 (by decide) ?_
            refine lv_ishl hx hb dX7_sharedOf_105 ?_
            obtain rfl := Option.some.inj hf
            exact W.iret hx hb hr (fun t ht hW => ⟨⟨_, (), rfl, rfl, trivial⟩, hS.F ht⟩) hS.2.2 dX7_sharedOf_106
          · replace hf := x_in c_12 hf
            refine lv_iload hx hb dX7_sharedOf_96 (lv_at hl 1 rfl) ?_
            refine lv_goto (tgt := 103) hx hb dX7_sharedOf_98 (by decide) ?_
            refine lv_bipush (v := 16) hx hb dX7_sharedOf_103 (by decide) ?_
            refine lv_ishl hx hb dX7_sharedOf_105 ?_
            obtain rfl := Option.some.inj hf
            exact W.iret hx hb hr (fun t ht hW => ⟨⟨_, (), rfl, rfl, trivial⟩, hS.F ht⟩) hS.2.2 dX7_sharedOf_106
        · replace hf := x_in c_11 hf
          refine lv_iload hx hb dX7_sharedOf_78 (lv_at hl 1 rfl) ?_
          refine lv_goto (tgt := 87) hx hb dX7_sharedOf_80 (by decide) ?_
          refine lv_istore (lv' := [(8, .int r_8), (7, .int (r_7 - (1 : Int32))), (6, .int r_8), (5, .int r_7), (4, .int (p2 &&& 65535)), (3, .int (p1 &&& 65535)), (0, .ref o7), (1, .int p1), (2, .int p2)]) hx hb dX7_sharedOf_87 hl (by decide) rfl (fun ls hl => ?_)
          refine lv_iload hx hb dX7_sharedOf_89 (lv_at hl 1 rfl) ?_
          refine lv_iload hx hb dX7_sharedOf_91 (lv_at hl 0 rfl) ?_
          refine lv_icmp_ge (tgt := 101) hx hb dX7_sharedOf_93 (by decide) (fun c_13 => ?_) (fun c_13 => ?_)
          · replace hf := x_ip c_13 hf
            refine lv_iload hx hb dX7_sharedOf_101 (lv_at hl 0 rfl) ?_
            refine lv_bipush (v := 16) hx hb dX7_sharedOf_103 (by decide) ?_
            refine lv_ishl hx hb dX7_sharedOf_105 ?_
            obtain rfl := Option.some.inj hf
            exact W.iret hx hb hr (fun t ht hW => ⟨⟨_, (), rfl, rfl, trivial⟩, hS.F ht⟩) hS.2.2 dX7_sharedOf_106
          · replace hf := x_in c_13 hf
            refine lv_iload hx hb dX7_sharedOf_96 (lv_at hl 1 rfl) ?_
            refine lv_goto (tgt := 103) hx hb dX7_sharedOf_98 (by decide) ?_
            refine lv_bipush (v := 16) hx hb dX7_sharedOf_103 (by decide) ?_
            refine lv_ishl hx hb dX7_sharedOf_105 ?_
            obtain rfl := Option.some.inj hf
            exact W.iret hx hb hr (fun t ht hW => ⟨⟨_, (), rfl, rfl, trivial⟩, hS.F ht⟩) hS.2.2 dX7_sharedOf_106
      · replace hf := x_in c_10 hf
        refine lv_iload hx hb dX7_sharedOf_60 (lv_at hl 1 rfl) ?_
        refine lv_goto (tgt := 69) hx hb dX7_sharedOf_62 (by decide) ?_
        refine lv_istore (lv' := [(7, .int r_7), (6, .int r_8), (5, .int r_7), (4, .int (p2 &&& 65535)), (3, .int (p1 &&& 65535)), (0, .ref o7), (1, .int p1), (2, .int p2)]) hx hb dX7_sharedOf_69 hl (by decide) rfl (fun ls hl => ?_)
        refine lv_iload hx hb dX7_sharedOf_71 (lv_at hl 3 rfl) ?_
        refine lv_ldc (v := 65528) hx hb hown k_3 dX7_sharedOf_73 ?_
        refine lv_icmp_ge (tgt := 83) hx hb dX7_sharedOf_75 (by decide) (fun c_14 => ?_) (fun c_14 => ?_)
        · replace hf := x_ip c_14 hf
          refine lv_iload hx hb dX7_sharedOf_83 (lv_at hl 1 rfl) ?_
          refine lv_iconst (v := 1) hx hb dX7_sharedOf_85 (by decide) ?_
          refine lv_isub hx hb dX7_sharedOf_86 ?_
          refine lv_istore (lv' := [(8, .int (r_8 - (1 : Int32))), (7, .int r_7), (6, .int r_8), (5, .int r_7), (4, .int (p2 &&& 65535)), (3, .int (p1 &&& 65535)), (0, .ref o7), (1, .int p1), (2, .int p2)]) hx hb dX7_sharedOf_87 hl (by decide) rfl (fun ls hl => ?_)
          refine lv_iload hx hb dX7_sharedOf_89 (lv_at hl 1 rfl) ?_
          refine lv_iload hx hb dX7_sharedOf_91 (lv_at hl 0 rfl) ?_
          refine lv_icmp_ge (tgt := 101) hx hb dX7_sharedOf_93 (by decide) (fun c_15 => ?_) (fun c_15 => ?_)
          · replace hf := x_ip c_15 hf
            refine lv_iload hx hb dX7_sharedOf_101 (lv_at hl 0 rfl) ?_
            refine lv_bipush (v := 16) hx hb dX7_sharedOf_103 (by decide) ?_
            refine lv_ishl hx hb dX7_sharedOf_105 ?_
            obtain rfl := Option.some.inj hf
            exact W.iret hx hb hr (fun t ht hW => ⟨⟨_, (), rfl, rfl, trivial⟩, hS.F ht⟩) hS.2.2 dX7_sharedOf_106
          · replace hf := x_in c_15 hf
            refine lv_iload hx hb dX7_sharedOf_96 (lv_at hl 1 rfl) ?_
            refine lv_goto (tgt := 103) hx hb dX7_sharedOf_98 (by decide) ?_
            refine lv_bipush (v := 16) hx hb dX7_sharedOf_103 (by decide) ?_
            refine lv_ishl hx hb dX7_sharedOf_105 ?_
            obtain rfl := Option.some.inj hf
            exact W.iret hx hb hr (fun t ht hW => ⟨⟨_, (), rfl, rfl, trivial⟩, hS.F ht⟩) hS.2.2 dX7_sharedOf_106
        · replace hf := x_in c_14 hf
          refine lv_iload hx hb dX7_sharedOf_78 (lv_at hl 1 rfl) ?_
          refine lv_goto (tgt := 87) hx hb dX7_sharedOf_80 (by decide) ?_
          refine lv_istore (lv' := [(8, .int r_8), (7, .int r_7), (6, .int r_8), (5, .int r_7), (4, .int (p2 &&& 65535)), (3, .int (p1 &&& 65535)), (0, .ref o7), (1, .int p1), (2, .int p2)]) hx hb dX7_sharedOf_87 hl (by decide) rfl (fun ls hl => ?_)
          refine lv_iload hx hb dX7_sharedOf_89 (lv_at hl 1 rfl) ?_
          refine lv_iload hx hb dX7_sharedOf_91 (lv_at hl 0 rfl) ?_
          refine lv_icmp_ge (tgt := 101) hx hb dX7_sharedOf_93 (by decide) (fun c_16 => ?_) (fun c_16 => ?_)
          · replace hf := x_ip c_16 hf
            refine lv_iload hx hb dX7_sharedOf_101 (lv_at hl 0 rfl) ?_
            refine lv_bipush (v := 16) hx hb dX7_sharedOf_103 (by decide) ?_
            refine lv_ishl hx hb dX7_sharedOf_105 ?_
            obtain rfl := Option.some.inj hf
            exact W.iret hx hb hr (fun t ht hW => ⟨⟨_, (), rfl, rfl, trivial⟩, hS.F ht⟩) hS.2.2 dX7_sharedOf_106
          · replace hf := x_in c_16 hf
            refine lv_iload hx hb dX7_sharedOf_96 (lv_at hl 1 rfl) ?_
            refine lv_goto (tgt := 103) hx hb dX7_sharedOf_98 (by decide) ?_
            refine lv_bipush (v := 16) hx hb dX7_sharedOf_103 (by decide) ?_
            refine lv_ishl hx hb dX7_sharedOf_105 ?_
            obtain rfl := Option.some.inj hf
            exact W.iret hx hb hr (fun t ht hW => ⟨⟨_, (), rfl, rfl, trivial⟩, hS.F ht⟩) hS.2.2 dX7_sharedOf_106
    · replace hf := x_ip c_9 hf
      refine lv_iload_n hx hb dX7_sharedOf_37 rfl (lv_at hl 3 rfl) ?_
      refine lv_aload_n hx hb dX7_sharedOf_38 rfl (lv_at hl 4 rfl) ?_
      refine va_get (D := (dC, dI)) (ci := 7) (v := .int v7_2) (C := RX7) (T := TX7) (N := 3) hx hb hts i_X7_sharedOf_X7 hown hK hP 0 rfl rfl 2 (by decide) k_4 (fun _ h9 => h9) rfl dX7_sharedOf_39 ?_
      refine lv_icmp_ge (tgt := 54) hx hb dX7_sharedOf_42 (by decide) (fun c_17 => ?_) (fun c_17 => ?_)
      · replace hf := x_ip c_17 hf
        refine lv_iload_n hx hb dX7_sharedOf_54 rfl (lv_at hl 3 rfl) ?_
        refine lv_ldc (v := 65528) hx hb hown k_3 dX7_sharedOf_55 ?_
        refine lv_icmp_ge (tgt := 65) hx hb dX7_sharedOf_57 (by decide) (fun c_18 => ?_) (fun c_18 => ?_)
        · replace hf := x_ip c_18 hf
          refine lv_iload hx hb dX7_sharedOf_65 (lv_at hl 1 rfl) ?_
          refine lv_iconst (v := 1) hx hb dX7_sharedOf_67 (by decide) ?_
          refine lv_isub hx hb dX7_sharedOf_68 ?_
          refine lv_istore (lv' := [(7, .int (r_7 - (1 : Int32))), (6, .int r_8), (5, .int r_7), (4, .int (p2 &&& 65535)), (3, .int (p1 &&& 65535)), (0, .ref o7), (1, .int p1), (2, .int p2)]) hx hb dX7_sharedOf_69 hl (by decide) rfl (fun ls hl => ?_)
          refine lv_iload hx hb dX7_sharedOf_71 (lv_at hl 3 rfl) ?_
          refine lv_ldc (v := 65528) hx hb hown k_3 dX7_sharedOf_73 ?_
          refine lv_icmp_ge (tgt := 83) hx hb dX7_sharedOf_75 (by decide) (fun c_19 => ?_) (fun c_19 => ?_)
          · replace hf := x_ip c_19 hf
            refine lv_iload hx hb dX7_sharedOf_83 (lv_at hl 1 rfl) ?_
            refine lv_iconst (v := 1) hx hb dX7_sharedOf_85 (by decide) ?_
            refine lv_isub hx hb dX7_sharedOf_86 ?_
            refine lv_istore (lv' := [(8, .int (r_8 - (1 : Int32))), (7, .int (r_7 - (1 : Int32))), (6, .int r_8), (5, .int r_7), (4, .int (p2 &&& 65535)), (3, .int (p1 &&& 65535)), (0, .ref o7), (1, .int p1), (2, .int p2)]) hx hb dX7_sharedOf_87 hl (by decide) rfl (fun ls hl => ?_)
            refine lv_iload hx hb dX7_sharedOf_89 (lv_at hl 1 rfl) ?_
            refine lv_iload hx hb dX7_sharedOf_91 (lv_at hl 0 rfl) ?_
            refine lv_icmp_ge (tgt := 101) hx hb dX7_sharedOf_93 (by decide) (fun c_20 => ?_) (fun c_20 => ?_)
            · replace hf := x_ip c_20 hf
              refine lv_iload hx hb dX7_sharedOf_101 (lv_at hl 0 rfl) ?_
              refine lv_bipush (v := 16) hx hb dX7_sharedOf_103 (by decide) ?_
              refine lv_ishl hx hb dX7_sharedOf_105 ?_
              obtain rfl := Option.some.inj hf
              exact W.iret hx hb hr (fun t ht hW => ⟨⟨_, (), rfl, rfl, trivial⟩, hS.F ht⟩) hS.2.2 dX7_sharedOf_106
            · replace hf := x_in c_20 hf
              refine lv_iload hx hb dX7_sharedOf_96 (lv_at hl 1 rfl) ?_
              refine lv_goto (tgt := 103) hx hb dX7_sharedOf_98 (by decide) ?_
              refine lv_bipush (v := 16) hx hb dX7_sharedOf_103 (by decide) ?_
              refine lv_ishl hx hb dX7_sharedOf_105 ?_
              obtain rfl := Option.some.inj hf
              exact W.iret hx hb hr (fun t ht hW => ⟨⟨_, (), rfl, rfl, trivial⟩, hS.F ht⟩) hS.2.2 dX7_sharedOf_106
          · replace hf := x_in c_19 hf
            refine lv_iload hx hb dX7_sharedOf_78 (lv_at hl 1 rfl) ?_
            refine lv_goto (tgt := 87) hx hb dX7_sharedOf_80 (by decide) ?_
            refine lv_istore (lv' := [(8, .int r_8), (7, .int (r_7 - (1 : Int32))), (6, .int r_8), (5, .int r_7), (4, .int (p2 &&& 65535)), (3, .int (p1 &&& 65535)), (0, .ref o7), (1, .int p1), (2, .int p2)]) hx hb dX7_sharedOf_87 hl (by decide) rfl (fun ls hl => ?_)
            refine lv_iload hx hb dX7_sharedOf_89 (lv_at hl 1 rfl) ?_
            refine lv_iload hx hb dX7_sharedOf_91 (lv_at hl 0 rfl) ?_
            refine lv_icmp_ge (tgt := 101) hx hb dX7_sharedOf_93 (by decide) (fun c_21 => ?_) (fun c_21 => ?_)
            · replace hf := x_ip c_21 hf
              refine lv_iload hx hb dX7_sharedOf_101 (lv_at hl 0 rfl) ?_
              refine lv_bipush (v := 16) hx hb dX7_sharedOf_103 (by decide) ?_
              refine lv_ishl hx hb dX7_sharedOf_105 ?_
              obtain rfl := Option.some.inj hf
              exact W.iret hx hb hr (fun t ht hW => ⟨⟨_, (), rfl, rfl, trivial⟩, hS.F ht⟩) hS.2.2 dX7_sharedOf_106
            · replace hf := x_in c_21 hf
              refine lv_iload hx hb dX7_sharedOf_96 (lv_at hl 1 rfl) ?_
              refine lv_goto (tgt := 103) hx hb dX7_sharedOf_98 (by decide) ?_
              refine lv_bipush (v := 16) hx hb dX7_sharedOf_103 (by decide) ?_
              refine lv_ishl hx hb dX7_sharedOf_105 ?_
              obtain rfl := Option.some.inj hf
              exact W.iret hx hb hr (fun t ht hW => ⟨⟨_, (), rfl, rfl, trivial⟩, hS.F ht⟩) hS.2.2 dX7_sharedOf_106
        · replace hf := x_in c_18 hf
          refine lv_iload hx hb dX7_sharedOf_60 (lv_at hl 1 rfl) ?_
          refine lv_goto (tgt := 69) hx hb dX7_sharedOf_62 (by decide) ?_
          refine lv_istore (lv' := [(7, .int r_7), (6, .int r_8), (5, .int r_7), (4, .int (p2 &&& 65535)), (3, .int (p1 &&& 65535)), (0, .ref o7), (1, .int p1), (2, .int p2)]) hx hb dX7_sharedOf_69 hl (by decide) rfl (fun ls hl => ?_)
          refine lv_iload hx hb dX7_sharedOf_71 (lv_at hl 3 rfl) ?_
          refine lv_ldc (v := 65528) hx hb hown k_3 dX7_sharedOf_73 ?_
          refine lv_icmp_ge (tgt := 83) hx hb dX7_sharedOf_75 (by decide) (fun c_22 => ?_) (fun c_22 => ?_)
          · replace hf := x_ip c_22 hf
            refine lv_iload hx hb dX7_sharedOf_83 (lv_at hl 1 rfl) ?_
            refine lv_iconst (v := 1) hx hb dX7_sharedOf_85 (by decide) ?_
            refine lv_isub hx hb dX7_sharedOf_86 ?_
            refine lv_istore (lv' := [(8, .int (r_8 - (1 : Int32))), (7, .int r_7), (6, .int r_8), (5, .int r_7), (4, .int (p2 &&& 65535)), (3, .int (p1 &&& 65535)), (0, .ref o7), (1, .int p1), (2, .int p2)]) hx hb dX7_sharedOf_87 hl (by decide) rfl (fun ls hl => ?_)
            refine lv_iload hx hb dX7_sharedOf_89 (lv_at hl 1 rfl) ?_
            refine lv_iload hx hb dX7_sharedOf_91 (lv_at hl 0 rfl) ?_
            refine lv_icmp_ge (tgt := 101) hx hb dX7_sharedOf_93 (by decide) (fun c_23 => ?_) (fun c_23 => ?_)
            · replace hf := x_ip c_23 hf
              refine lv_iload hx hb dX7_sharedOf_101 (lv_at hl 0 rfl) ?_
              refine lv_bipush (v := 16) hx hb dX7_sharedOf_103 (by decide) ?_
              refine lv_ishl hx hb dX7_sharedOf_105 ?_
              obtain rfl := Option.some.inj hf
              exact W.iret hx hb hr (fun t ht hW => ⟨⟨_, (), rfl, rfl, trivial⟩, hS.F ht⟩) hS.2.2 dX7_sharedOf_106
            · replace hf := x_in c_23 hf
              refine lv_iload hx hb dX7_sharedOf_96 (lv_at hl 1 rfl) ?_
              refine lv_goto (tgt := 103) hx hb dX7_sharedOf_98 (by decide) ?_
              refine lv_bipush (v := 16) hx hb dX7_sharedOf_103 (by decide) ?_
              refine lv_ishl hx hb dX7_sharedOf_105 ?_
              obtain rfl := Option.some.inj hf
              exact W.iret hx hb hr (fun t ht hW => ⟨⟨_, (), rfl, rfl, trivial⟩, hS.F ht⟩) hS.2.2 dX7_sharedOf_106
          · replace hf := x_in c_22 hf
            refine lv_iload hx hb dX7_sharedOf_78 (lv_at hl 1 rfl) ?_
            refine lv_goto (tgt := 87) hx hb dX7_sharedOf_80 (by decide) ?_
            refine lv_istore (lv' := [(8, .int r_8), (7, .int r_7), (6, .int r_8), (5, .int r_7), (4, .int (p2 &&& 65535)), (3, .int (p1 &&& 65535)), (0, .ref o7), (1, .int p1), (2, .int p2)]) hx hb dX7_sharedOf_87 hl (by decide) rfl (fun ls hl => ?_)
            refine lv_iload hx hb dX7_sharedOf_89 (lv_at hl 1 rfl) ?_
            refine lv_iload hx hb dX7_sharedOf_91 (lv_at hl 0 rfl) ?_
            refine lv_icmp_ge (tgt := 101) hx hb dX7_sharedOf_93 (by decide) (fun c_24 => ?_) (fun c_24 => ?_)
            · replace hf := x_ip c_24 hf
              refine lv_iload hx hb dX7_sharedOf_101 (lv_at hl 0 rfl) ?_
              refine lv_bipush (v := 16) hx hb dX7_sharedOf_103 (by decide) ?_
              refine lv_ishl hx hb dX7_sharedOf_105 ?_
              obtain rfl := Option.some.inj hf
              exact W.iret hx hb hr (fun t ht hW => ⟨⟨_, (), rfl, rfl, trivial⟩, hS.F ht⟩) hS.2.2 dX7_sharedOf_106
            · replace hf := x_in c_24 hf
              refine lv_iload hx hb dX7_sharedOf_96 (lv_at hl 1 rfl) ?_
              refine lv_goto (tgt := 103) hx hb dX7_sharedOf_98 (by decide) ?_
              refine lv_bipush (v := 16) hx hb dX7_sharedOf_103 (by decide) ?_
              refine lv_ishl hx hb dX7_sharedOf_105 ?_
              obtain rfl := Option.some.inj hf
              exact W.iret hx hb hr (fun t ht hW => ⟨⟨_, (), rfl, rfl, trivial⟩, hS.F ht⟩) hS.2.2 dX7_sharedOf_106
      · replace hf := x_in c_17 hf
        refine lv_iload hx hb dX7_sharedOf_45 (lv_at hl 2 rfl) ?_
        refine lv_aload_n hx hb dX7_sharedOf_47 rfl (lv_at hl 4 rfl) ?_
        refine va_get (D := (dC, dI)) (ci := 7) (v := .int v7_2) (C := RX7) (T := TX7) (N := 3) hx hb hts i_X7_sharedOf_X7 hown hK hP 0 rfl rfl 2 (by decide) k_4 (fun _ h9 => h9) rfl dX7_sharedOf_48 ?_
        refine lv_icmp_lt (tgt := 107) hx hb dX7_sharedOf_51 (by decide) (fun c_25 => ?_) (fun c_25 => ?_)
        · replace hf := x_ip c_25 hf
          refine lv_iconst (v := 0) hx hb dX7_sharedOf_107 (by decide) ?_
          refine lv_istore (lv' := [(7, .int 0), (6, .int r_8), (5, .int r_7), (4, .int (p2 &&& 65535)), (3, .int (p1 &&& 65535)), (0, .ref o7), (1, .int p1), (2, .int p2)]) hx hb dX7_sharedOf_108 hl (by decide) rfl (fun ls hl => ?_)
          exact (hWW _ _ _ _ _).mpr ((J r_7 (0, p1 &&& 65535, p2 &&& 65535, 0) _ hf rfl _ _ _ _ rfl) rfl H locs ls hP hS (lv_sub hl [5, 4, 3, 2, 0] rfl))
        · replace hf := x_in c_25 hf
          refine lv_iload_n hx hb dX7_sharedOf_54 rfl (lv_at hl 3 rfl) ?_
          refine lv_ldc (v := 65528) hx hb hown k_3 dX7_sharedOf_55 ?_
          refine lv_icmp_ge (tgt := 65) hx hb dX7_sharedOf_57 (by decide) (fun c_26 => ?_) (fun c_26 => ?_)
          · replace hf := x_ip c_26 hf
            refine lv_iload hx hb dX7_sharedOf_65 (lv_at hl 1 rfl) ?_
            refine lv_iconst (v := 1) hx hb dX7_sharedOf_67 (by decide) ?_
            refine lv_isub hx hb dX7_sharedOf_68 ?_
            refine lv_istore (lv' := [(7, .int (r_7 - (1 : Int32))), (6, .int r_8), (5, .int r_7), (4, .int (p2 &&& 65535)), (3, .int (p1 &&& 65535)), (0, .ref o7), (1, .int p1), (2, .int p2)]) hx hb dX7_sharedOf_69 hl (by decide) rfl (fun ls hl => ?_)
            refine lv_iload hx hb dX7_sharedOf_71 (lv_at hl 3 rfl) ?_
            refine lv_ldc (v := 65528) hx hb hown k_3 dX7_sharedOf_73 ?_
            refine lv_icmp_ge (tgt := 83) hx hb dX7_sharedOf_75 (by decide) (fun c_27 => ?_) (fun c_27 => ?_)
            · replace hf := x_ip c_27 hf
              refine lv_iload hx hb dX7_sharedOf_83 (lv_at hl 1 rfl) ?_
              refine lv_iconst (v := 1) hx hb dX7_sharedOf_85 (by decide) ?_
              refine lv_isub hx hb dX7_sharedOf_86 ?_
              refine lv_istore (lv' := [(8, .int (r_8 - (1 : Int32))), (7, .int (r_7 - (1 : Int32))), (6, .int r_8), (5, .int r_7), (4, .int (p2 &&& 65535)), (3, .int (p1 &&& 65535)), (0, .ref o7), (1, .int p1), (2, .int p2)]) hx hb dX7_sharedOf_87 hl (by decide) rfl (fun ls hl => ?_)
              refine lv_iload hx hb dX7_sharedOf_89 (lv_at hl 1 rfl) ?_
              refine lv_iload hx hb dX7_sharedOf_91 (lv_at hl 0 rfl) ?_
              refine lv_icmp_ge (tgt := 101) hx hb dX7_sharedOf_93 (by decide) (fun c_28 => ?_) (fun c_28 => ?_)
              · replace hf := x_ip c_28 hf
                refine lv_iload hx hb dX7_sharedOf_101 (lv_at hl 0 rfl) ?_
                refine lv_bipush (v := 16) hx hb dX7_sharedOf_103 (by decide) ?_
                refine lv_ishl hx hb dX7_sharedOf_105 ?_
                obtain rfl := Option.some.inj hf
                exact W.iret hx hb hr (fun t ht hW => ⟨⟨_, (), rfl, rfl, trivial⟩, hS.F ht⟩) hS.2.2 dX7_sharedOf_106
              · replace hf := x_in c_28 hf
                refine lv_iload hx hb dX7_sharedOf_96 (lv_at hl 1 rfl) ?_
                refine lv_goto (tgt := 103) hx hb dX7_sharedOf_98 (by decide) ?_
                refine lv_bipush (v := 16) hx hb dX7_sharedOf_103 (by decide) ?_
                refine lv_ishl hx hb dX7_sharedOf_105 ?_
                obtain rfl := Option.some.inj hf
                exact W.iret hx hb hr (fun t ht hW => ⟨⟨_, (), rfl, rfl, trivial⟩, hS.F ht⟩) hS.2.2 dX7_sharedOf_106
            · replace hf := x_in c_27 hf
              refine lv_iload hx hb dX7_sharedOf_78 (lv_at hl 1 rfl) ?_
              refine lv_goto (tgt := 87) hx hb dX7_sharedOf_80 (by decide) ?_
              refine lv_istore (lv' := [(8, .int r_8), (7, .int (r_7 - (1 : Int32))), (6, .int r_8), (5, .int r_7), (4, .int (p2 &&& 65535)), (3, .int (p1 &&& 65535)), (0, .ref o7), (1, .int p1), (2, .int p2)]) hx hb dX7_sharedOf_87 hl (by decide) rfl (fun ls hl => ?_)
              refine lv_iload hx hb dX7_sharedOf_89 (lv_at hl 1 rfl) ?_
              refine lv_iload hx hb dX7_sharedOf_91 (lv_at hl 0 rfl) ?_
              refine lv_icmp_ge (tgt := 101) hx hb dX7_sharedOf_93 (by decide) (fun c_29 => ?_) (fun c_29 => ?_)
              · replace hf := x_ip c_29 hf
                refine lv_iload hx hb dX7_sharedOf_101 (lv_at hl 0 rfl) ?_
                refine lv_bipush (v := 16) hx hb dX7_sharedOf_103 (by decide) ?_
                refine lv_ishl hx hb dX7_sharedOf_105 ?_
                obtain rfl := Option.some.inj hf
                exact W.iret hx hb hr (fun t ht hW => ⟨⟨_, (), rfl, rfl, trivial⟩, hS.F ht⟩) hS.2.2 dX7_sharedOf_106
              · replace hf := x_in c_29 hf
                refine lv_iload hx hb dX7_sharedOf_96 (lv_at hl 1 rfl) ?_
                refine lv_goto (tgt := 103) hx hb dX7_sharedOf_98 (by decide) ?_
                refine lv_bipush (v := 16) hx hb dX7_sharedOf_103 (by decide) ?_
                refine lv_ishl hx hb dX7_sharedOf_105 ?_
                obtain rfl := Option.some.inj hf
                exact W.iret hx hb hr (fun t ht hW => ⟨⟨_, (), rfl, rfl, trivial⟩, hS.F ht⟩) hS.2.2 dX7_sharedOf_106
          · replace hf := x_in c_26 hf
            refine lv_iload hx hb dX7_sharedOf_60 (lv_at hl 1 rfl) ?_
            refine lv_goto (tgt := 69) hx hb dX7_sharedOf_62 (by decide) ?_
            refine lv_istore (lv' := [(7, .int r_7), (6, .int r_8), (5, .int r_7), (4, .int (p2 &&& 65535)), (3, .int (p1 &&& 65535)), (0, .ref o7), (1, .int p1), (2, .int p2)]) hx hb dX7_sharedOf_69 hl (by decide) rfl (fun ls hl => ?_)
            refine lv_iload hx hb dX7_sharedOf_71 (lv_at hl 3 rfl) ?_
            refine lv_ldc (v := 65528) hx hb hown k_3 dX7_sharedOf_73 ?_
            refine lv_icmp_ge (tgt := 83) hx hb dX7_sharedOf_75 (by decide) (fun c_30 => ?_) (fun c_30 => ?_)
            · replace hf := x_ip c_30 hf
              refine lv_iload hx hb dX7_sharedOf_83 (lv_at hl 1 rfl) ?_
              refine lv_iconst (v := 1) hx hb dX7_sharedOf_85 (by decide) ?_
              refine lv_isub hx hb dX7_sharedOf_86 ?_
              refine lv_istore (lv' := [(8, .int (r_8 - (1 : Int32))), (7, .int r_7), (6, .int r_8), (5, .int r_7), (4, .int (p2 &&& 65535)), (3, .int (p1 &&& 65535)), (0, .ref o7), (1, .int p1), (2, .int p2)]) hx hb dX7_sharedOf_87 hl (by decide) rfl (fun ls hl => ?_)
              refine lv_iload hx hb dX7_sharedOf_89 (lv_at hl 1 rfl) ?_
              refine lv_iload hx hb dX7_sharedOf_91 (lv_at hl 0 rfl) ?_
              refine lv_icmp_ge (tgt := 101) hx hb dX7_sharedOf_93 (by decide) (fun c_31 => ?_) (fun c_31 => ?_)
              · replace hf := x_ip c_31 hf
                refine lv_iload hx hb dX7_sharedOf_101 (lv_at hl 0 rfl) ?_
                refine lv_bipush (v := 16) hx hb dX7_sharedOf_103 (by decide) ?_
                refine lv_ishl hx hb dX7_sharedOf_105 ?_
                obtain rfl := Option.some.inj hf
                exact W.iret hx hb hr (fun t ht hW => ⟨⟨_, (), rfl, rfl, trivial⟩, hS.F ht⟩) hS.2.2 dX7_sharedOf_106
              · replace hf := x_in c_31 hf
                refine lv_iload hx hb dX7_sharedOf_96 (lv_at hl 1 rfl) ?_
                refine lv_goto (tgt := 103) hx hb dX7_sharedOf_98 (by decide) ?_
                refine lv_bipush (v := 16) hx hb dX7_sharedOf_103 (by decide) ?_
                refine lv_ishl hx hb dX7_sharedOf_105 ?_
                obtain rfl := Option.some.inj hf
                exact W.iret hx hb hr (fun t ht hW => ⟨⟨_, (), rfl, rfl, trivial⟩, hS.F ht⟩) hS.2.2 dX7_sharedOf_106
            · replace hf := x_in c_30 hf
              refine lv_iload hx hb dX7_sharedOf_78 (lv_at hl 1 rfl) ?_
              refine lv_goto (tgt := 87) hx hb dX7_sharedOf_80 (by decide) ?_
              refine lv_istore (lv' := [(8, .int r_8), (7, .int r_7), (6, .int r_8), (5, .int r_7), (4, .int (p2 &&& 65535)), (3, .int (p1 &&& 65535)), (0, .ref o7), (1, .int p1), (2, .int p2)]) hx hb dX7_sharedOf_87 hl (by decide) rfl (fun ls hl => ?_)
              refine lv_iload hx hb dX7_sharedOf_89 (lv_at hl 1 rfl) ?_
              refine lv_iload hx hb dX7_sharedOf_91 (lv_at hl 0 rfl) ?_
              refine lv_icmp_ge (tgt := 101) hx hb dX7_sharedOf_93 (by decide) (fun c_32 => ?_) (fun c_32 => ?_)
              · replace hf := x_ip c_32 hf
                refine lv_iload hx hb dX7_sharedOf_101 (lv_at hl 0 rfl) ?_
                refine lv_bipush (v := 16) hx hb dX7_sharedOf_103 (by decide) ?_
                refine lv_ishl hx hb dX7_sharedOf_105 ?_
                obtain rfl := Option.some.inj hf
                exact W.iret hx hb hr (fun t ht hW => ⟨⟨_, (), rfl, rfl, trivial⟩, hS.F ht⟩) hS.2.2 dX7_sharedOf_106
              · replace hf := x_in c_32 hf
                refine lv_iload hx hb dX7_sharedOf_96 (lv_at hl 1 rfl) ?_
                refine lv_goto (tgt := 103) hx hb dX7_sharedOf_98 (by decide) ?_
                refine lv_bipush (v := 16) hx hb dX7_sharedOf_103 (by decide) ?_
                refine lv_ishl hx hb dX7_sharedOf_105 ?_
                obtain rfl := Option.some.inj hf
                exact W.iret hx hb hr (fun t ht hW => ⟨⟨_, (), rfl, rfl, trivial⟩, hS.F ht⟩) hS.2.2 dX7_sharedOf_106
  · replace hf := x_ip c_6 hf
    refine lv_iload_n hx hb dX7_sharedOf_5 rfl (lv_at hl 1 rfl) ?_
    obtain rfl := Option.some.inj hf
    exact W.iret hx hb hr (fun t ht hW => ⟨⟨_, (), rfl, rfl, trivial⟩, hS.F ht⟩) hS.2.2 dX7_sharedOf_6

def f_X7_meet (v7_2 : Int32) (g7_0 : Nat → Int32) (p1 : Int32) (p2 : Int32) : Option (Int32) := if p1 = p2 then some p1 else if (p1 &&& 15) = (8 : Int32) then if (p2 &&& 15) = (8 : Int32) then (f_X7_sharedOf v7_2 g7_0 (p1 >>> (4 &&& 31)) (p2 >>> (4 &&& 31))) >>= (fun r_27 => some (((16 : Int32) * r_27) + (8 : Int32))) else if p1 = (5 : Int32) then if p2 = (5 : Int32) then some p1 else some 0 else if p2 = (5 : Int32) then some p1 else some 0 else if (p2 &&& 15) = (8 : Int32) then if p1 = (5 : Int32) then some p2 else if p2 = (5 : Int32) then some 0 else some 0 else if p1 = (5 : Int32) then if p2 = (5 : Int32) then some 0 else some 0 else if p2 = (5 : Int32) then some 0 else some 0
set_option maxHeartbeats 4000000 in
set_option maxRecDepth 100000 in
theorem c_X7_meet (l : Launch) (dC : Nat → ClassId) (dI : Nat → Nat → Nat) (cyI cyZ cyJ : ClassId) (sz : Nat) (o7 : Nat) (a7_0 : Nat) (a7_1 : Nat) (v7_2 : Int32) (g7_0 : Nat → Int32) (p1 : Int32) (p2 : Int32) (R : Int32) (hf : f_X7_meet v7_2 g7_0 p1 p2 = some R) : Met l yX7_meet wsX7_meet ({ frames := 2, cells := 0, slots := 0, locals := 48 }) (va_Pc [.ref o7, .int p1, .int p2] (x_Pre (dC, dI) (x_T cyI cyZ cyJ) [(o7, .inr (7, [.ref a7_0, .ref a7_1, .int v7_2])), (a7_0, .inl (cyI, 200, .inl g7_0))] sz)) (va_Qi (fun (r : Int32) (_ : Unit) => r = R) (fun _ _ => True) (x_new sz)) 0 0 (x_new sz) := by
  refine Met.ofW (cc := cX7_meet) (maxL := 5) (ret := (some .int)) (by decide) rfl ?_
  intro p e s m args below meth c s₁ B hml hv
  obtain ⟨rfl, hsz, hP, hK, hN⟩ := hv
  have hx := B.exec
  have hb := B.bytes
  have hr := B.returns
  have hts := atoms_spec (ws := wsX7_meet) B.pre
  have hown : s.vm.findClass RX7 = some m.cls := findClass_of_methodNamed B.named
  subst hsz
  have hA : ∀ q : Nat, s.heap.size ≤ q → x_new s.heap.size q := fun _ h => h
  have hS : va_S (x_new s.heap.size) s.heap s.heap [] := va_S.rf
  have hP : va_P (dC, dI) vwCl [(o7, .inr (7, [.ref a7_0, .ref a7_1, .int v7_2])), (a7_0, .inl (cyI, 200, .inl g7_0))] s.heap := hP
  have hl := lv_entry ([.ref o7, .int p1, .int p2]) (n := 5) (Nat.le_of_ble_eq_true rfl)
  rw [lg_entry_eq]
  generalize (lg_sl ([.ref o7, .int p1, .int p2]) ++ List.replicate (5 - (lg_sl ([.ref o7, .int p1, .int p2])).length) Slot.unset).toArray = ls at hl ⊢
  have hl : lv_has ls 5 [(0, .ref o7), (1, .int p1), (2, .int p2)] := hl
  obtain ⟨H, hH⟩ : ∃ z, z = s.heap := ⟨_, rfl⟩
  refine x_here hH ?_
  have hP : va_P (dC, dI) vwCl [(o7, .inr (7, [.ref a7_0, .ref a7_1, .int v7_2])), (a7_0, .inl (cyI, 200, .inl g7_0))] H := by rw [hH]; exact hP
  have hS : va_S (x_new s.heap.size) s.heap H [] := by rw [hH]; exact va_S.rf
  clear hH
  obtain ⟨locs, hlo⟩ : ∃ z : List Loc, z = [] := ⟨_, rfl⟩
  refine x_herl hlo ?_
  have hS : va_S (x_new s.heap.size) s.heap H locs := by rw [hlo]; exact hS
  clear hlo
  unfold f_X7_meet at hf
  refine lv_iload_n hx hb dX7_meet_0 rfl (lv_at hl 1 rfl) ?_
  refine lv_iload_n hx hb dX7_meet_1 rfl (lv_at hl 2 rfl) ?_
  refine lv_icmp_ne (tgt := 7) hx hb dX7_meet_2 (by decide) (fun c_1 => ?_) (fun c_1 => ?_)
  · replace hf := x_in c_1 hf
    refine lv_iload_n hx hb dX7_meet_7 rfl (lv_at hl 1 rfl) ?_
    refine lv_bipush (v := 15) hx hb dX7_meet_8 (by decide) ?_
    refine lv_iand hx hb dX7_meet_10 ?_
    refine lv_bipush (v := 8) hx hb dX7_meet_11 (by decide) ?_
    refine lv_icmp_ne (tgt := 20) hx hb dX7_meet_13 (by decide) (fun c_2 => ?_) (fun c_2 => ?_)
    · replace hf := x_in c_2 hf
      refine lv_iconst (v := 0) hx hb dX7_meet_20 (by decide) ?_
      refine lv_istore_n (lv' := [(3, .int 0), (0, .ref o7), (1, .int p1), (2, .int p2)]) hx hb dX7_meet_21 rfl hl (by decide) rfl (fun ls hl => ?_)
      refine lv_iload_n hx hb dX7_meet_22 rfl (lv_at hl 3 rfl) ?_
      refine lv_bipush (v := 15) hx hb dX7_meet_23 (by decide) ?_
      refine lv_iand hx hb dX7_meet_25 ?_
      refine lv_bipush (v := 8) hx hb dX7_meet_26 (by decide) ?_
      refine lv_icmp_ne (tgt := 35) hx hb dX7_meet_28 (by decide) (fun c_3 => ?_) (fun c_3 => ?_)
      · replace hf := x_in c_3 hf
        refine lv_iconst (v := 0) hx hb dX7_meet_35 (by decide) ?_
        refine lv_istore (lv' := [(4, .int 0), (3, .int 0), (0, .ref o7), (1, .int p1), (2, .int p2)]) hx hb dX7_meet_36 hl (by decide) rfl (fun ls hl => ?_)
        refine lv_iload_n hx hb dX7_meet_38 rfl (lv_at hl 1 rfl) ?_
        refine lv_if_eq (tgt := 64) hx hb dX7_meet_39 (by decide) (fun _ => ?_) (fun c_4 => absurd (by decide) c_4)
        refine lv_iload_n hx hb dX7_meet_64 rfl (lv_at hl 3 rfl) ?_
        refine lv_iconst (v := 5) hx hb dX7_meet_65 (by decide) ?_
        refine lv_icmp_ne (tgt := 76) hx hb dX7_meet_66 (by decide) (fun c_5 => ?_) (fun c_5 => ?_)
        · replace hf := x_in c_5 hf
          refine lv_iload_n hx hb dX7_meet_76 rfl (lv_at hl 4 rfl) ?_
          refine lv_iconst (v := 5) hx hb dX7_meet_77 (by decide) ?_
          refine lv_icmp_ne (tgt := 89) hx hb dX7_meet_78 (by decide) (fun c_6 => ?_) (fun c_6 => ?_)
          · replace hf := x_in c_6 hf
            refine lv_iconst (v := 0) hx hb dX7_meet_89 (by decide) ?_
            obtain rfl := Option.some.inj hf
            exact W.iret hx hb hr (fun t ht hW => ⟨⟨_, (), rfl, rfl, trivial⟩, hS.F ht⟩) hS.2.2 dX7_meet_90
          · replace hf := x_ip c_6 hf
            refine lv_iload_n hx hb dX7_meet_81 rfl (lv_at hl 1 rfl) ?_
            refine lv_if_eq (tgt := 89) hx hb dX7_meet_82 (by decide) (fun _ => ?_) (fun c_7 => absurd (by decide) c_7)
            refine lv_iconst (v := 0) hx hb dX7_meet_89 (by decide) ?_
            obtain rfl := Option.some.inj hf
            exact W.iret hx hb hr (fun t ht hW => ⟨⟨_, (), rfl, rfl, trivial⟩, hS.F ht⟩) hS.2.2 dX7_meet_90
        · replace hf := x_ip c_5 hf
          refine lv_iload hx hb dX7_meet_69 (lv_at hl 0 rfl) ?_
          refine lv_if_eq (tgt := 76) hx hb dX7_meet_71 (by decide) (fun _ => ?_) (fun c_8 => absurd (by decide) c_8)
          refine lv_iload_n hx hb dX7_meet_76 rfl (lv_at hl 4 rfl) ?_
          refine lv_iconst (v := 5) hx hb dX7_meet_77 (by decide) ?_
          refine lv_icmp_ne (tgt := 89) hx hb dX7_meet_78 (by decide) (fun c_9 => ?_) (fun c_9 => ?_)
          · replace hf := x_in c_9 hf
            refine lv_iconst (v := 0) hx hb dX7_meet_89 (by decide) ?_
            obtain rfl := Option.some.inj hf
            exact W.iret hx hb hr (fun t ht hW => ⟨⟨_, (), rfl, rfl, trivial⟩, hS.F ht⟩) hS.2.2 dX7_meet_90
          · replace hf := x_ip c_9 hf
            refine lv_iload_n hx hb dX7_meet_81 rfl (lv_at hl 1 rfl) ?_
            refine lv_if_eq (tgt := 89) hx hb dX7_meet_82 (by decide) (fun _ => ?_) (fun c_10 => absurd (by decide) c_10)
            refine lv_iconst (v := 0) hx hb dX7_meet_89 (by decide) ?_
            obtain rfl := Option.some.inj hf
            exact W.iret hx hb hr (fun t ht hW => ⟨⟨_, (), rfl, rfl, trivial⟩, hS.F ht⟩) hS.2.2 dX7_meet_90
      · replace hf := x_ip c_3 hf
        refine lv_iconst (v := 1) hx hb dX7_meet_31 (by decide) ?_
        refine lv_goto (tgt := 36) hx hb dX7_meet_32 (by decide) ?_
        refine lv_istore (lv' := [(4, .int 1), (3, .int 0), (0, .ref o7), (1, .int p1), (2, .int p2)]) hx hb dX7_meet_36 hl (by decide) rfl (fun ls hl => ?_)
        refine lv_iload_n hx hb dX7_meet_38 rfl (lv_at hl 1 rfl) ?_
        refine lv_if_eq (tgt := 64) hx hb dX7_meet_39 (by decide) (fun _ => ?_) (fun c_11 => absurd (by decide) c_11)
        refine lv_iload_n hx hb dX7_meet_64 rfl (lv_at hl 3 rfl) ?_
        refine lv_iconst (v := 5) hx hb dX7_meet_65 (by decide) ?_
        refine lv_icmp_ne (tgt := 76) hx hb dX7_meet_66 (by decide) (fun c_12 => ?_) (fun c_12 => ?_)
        · replace hf := x_in c_12 hf
          refine lv_iload_n hx hb dX7_meet_76 rfl (lv_at hl 4 rfl) ?_
          refine lv_iconst (v := 5) hx hb dX7_meet_77 (by decide) ?_
          refine lv_icmp_ne (tgt := 89) hx hb dX7_meet_78 (by decide) (fun c_13 => ?_) (fun c_13 => ?_)
          · replace hf := x_in c_13 hf
            refine lv_iconst (v := 0) hx hb dX7_meet_89 (by decide) ?_
            obtain rfl := Option.some.inj hf
            exact W.iret hx hb hr (fun t ht hW => ⟨⟨_, (), rfl, rfl, trivial⟩, hS.F ht⟩) hS.2.2 dX7_meet_90
          · replace hf := x_ip c_13 hf
            refine lv_iload_n hx hb dX7_meet_81 rfl (lv_at hl 1 rfl) ?_
            refine lv_if_eq (tgt := 89) hx hb dX7_meet_82 (by decide) (fun _ => ?_) (fun c_14 => absurd (by decide) c_14)
            refine lv_iconst (v := 0) hx hb dX7_meet_89 (by decide) ?_
            obtain rfl := Option.some.inj hf
            exact W.iret hx hb hr (fun t ht hW => ⟨⟨_, (), rfl, rfl, trivial⟩, hS.F ht⟩) hS.2.2 dX7_meet_90
        · replace hf := x_ip c_12 hf
          refine lv_iload hx hb dX7_meet_69 (lv_at hl 0 rfl) ?_
          refine lv_if_eq (tgt := 76) hx hb dX7_meet_71 (by decide) (fun c_15 => absurd c_15 (by decide)) (fun _ => ?_)
          refine lv_iload_n hx hb dX7_meet_74 rfl (lv_at hl 4 rfl) ?_
          obtain rfl := Option.some.inj hf
          exact W.iret hx hb hr (fun t ht hW => ⟨⟨_, (), rfl, rfl, trivial⟩, hS.F ht⟩) hS.2.2 dX7_meet_75
    · replace hf := x_ip c_2 hf
      refine lv_iconst (v := 1) hx hb dX7_meet_16 (by decide) ?_
      refine lv_goto (tgt := 21) hx hb dX7_meet_17 (by decide) ?_
      refine lv_istore_n (lv' := [(3, .int 1), (0, .ref o7), (1, .int p1), (2, .int p2)]) hx hb dX7_meet_21 rfl hl (by decide) rfl (fun ls hl => ?_)
      refine lv_iload_n hx hb dX7_meet_22 rfl (lv_at hl 3 rfl) ?_
      refine lv_bipush (v := 15) hx hb dX7_meet_23 (by decide) ?_
      refine lv_iand hx hb dX7_meet_25 ?_
      refine lv_bipush (v := 8) hx hb dX7_meet_26 (by decide) ?_
      refine lv_icmp_ne (tgt := 35) hx hb dX7_meet_28 (by decide) (fun c_16 => ?_) (fun c_16 => ?_)
      · replace hf := x_in c_16 hf
        refine lv_iconst (v := 0) hx hb dX7_meet_35 (by decide) ?_
        refine lv_istore (lv' := [(4, .int 0), (3, .int 1), (0, .ref o7), (1, .int p1), (2, .int p2)]) hx hb dX7_meet_36 hl (by decide) rfl (fun ls hl => ?_)
        refine lv_iload_n hx hb dX7_meet_38 rfl (lv_at hl 1 rfl) ?_
        refine lv_if_eq (tgt := 64) hx hb dX7_meet_39 (by decide) (fun c_17 => absurd c_17 (by decide)) (fun _ => ?_)
        refine lv_iload hx hb dX7_meet_42 (lv_at hl 0 rfl) ?_
        refine lv_if_eq (tgt := 64) hx hb dX7_meet_44 (by decide) (fun _ => ?_) (fun c_18 => absurd (by decide) c_18)
        refine lv_iload_n hx hb dX7_meet_64 rfl (lv_at hl 3 rfl) ?_
        refine lv_iconst (v := 5) hx hb dX7_meet_65 (by decide) ?_
        refine lv_icmp_ne (tgt := 76) hx hb dX7_meet_66 (by decide) (fun c_19 => ?_) (fun c_19 => ?_)
        · replace hf := x_in c_19 hf
          refine lv_iload_n hx hb dX7_meet_76 rfl (lv_at hl 4 rfl) ?_
          refine lv_iconst (v := 5) hx hb dX7_meet_77 (by decide) ?_
          refine lv_icmp_ne (tgt := 89) hx hb dX7_meet_78 (by decide) (fun c_20 => ?_) (fun c_20 => ?_)
          · replace hf := x_in c_20 hf
            refine lv_iconst (v := 0) hx hb dX7_meet_89 (by decide) ?_
            obtain rfl := Option.some.inj hf
            exact W.iret hx hb hr (fun t ht hW => ⟨⟨_, (), rfl, rfl, trivial⟩, hS.F ht⟩) hS.2.2 dX7_meet_90
          · replace hf := x_ip c_20 hf
            refine lv_iload_n hx hb dX7_meet_81 rfl (lv_at hl 1 rfl) ?_
            refine lv_if_eq (tgt := 89) hx hb dX7_meet_82 (by decide) (fun c_21 => absurd c_21 (by decide)) (fun _ => ?_)
            refine lv_iload_n hx hb dX7_meet_85 rfl (lv_at hl 3 rfl) ?_
            refine lv_goto (tgt := 90) hx hb dX7_meet_86 (by decide) ?_
            obtain rfl := Option.some.inj hf
            exact W.iret hx hb hr (fun t ht hW => ⟨⟨_, (), rfl, rfl, trivial⟩, hS.F ht⟩) hS.2.2 dX7_meet_90
        · replace hf := x_ip c_19 hf
          refine lv_iload hx hb dX7_meet_69 (lv_at hl 0 rfl) ?_
          refine lv_if_eq (tgt := 76) hx hb dX7_meet_71 (by decide) (fun _ => ?_) (fun c_22 => absurd (by decide) c_22)
          refine lv_iload_n hx hb dX7_meet_76 rfl (lv_at hl 4 rfl) ?_
          refine lv_iconst (v := 5) hx hb dX7_meet_77 (by decide) ?_
          refine lv_icmp_ne (tgt := 89) hx hb dX7_meet_78 (by decide) (fun c_23 => ?_) (fun c_23 => ?_)
          · replace hf := x_in c_23 hf
            refine lv_iconst (v := 0) hx hb dX7_meet_89 (by decide) ?_
            obtain rfl := Option.some.inj hf
            exact W.iret hx hb hr (fun t ht hW => ⟨⟨_, (), rfl, rfl, trivial⟩, hS.F ht⟩) hS.2.2 dX7_meet_90
          · replace hf := x_ip c_23 hf
            refine lv_iload_n hx hb dX7_meet_81 rfl (lv_at hl 1 rfl) ?_
            refine lv_if_eq (tgt := 89) hx hb dX7_meet_82 (by decide) (fun c_24 => absurd c_24 (by decide)) (fun _ => ?_)
            refine lv_iload_n hx hb dX7_meet_85 rfl (lv_at hl 3 rfl) ?_
            refine lv_goto (tgt := 90) hx hb dX7_meet_86 (by decide) ?_
            obtain rfl := Option.some.inj hf
            exact W.iret hx hb hr (fun t ht hW => ⟨⟨_, (), rfl, rfl, trivial⟩, hS.F ht⟩) hS.2.2 dX7_meet_90
      · replace hf := x_ip c_16 hf
        refine lv_iconst (v := 1) hx hb dX7_meet_31 (by decide) ?_
        refine lv_goto (tgt := 36) hx hb dX7_meet_32 (by decide) ?_
        refine lv_istore (lv' := [(4, .int 1), (3, .int 1), (0, .ref o7), (1, .int p1), (2, .int p2)]) hx hb dX7_meet_36 hl (by decide) rfl (fun ls hl => ?_)
        refine lv_iload_n hx hb dX7_meet_38 rfl (lv_at hl 1 rfl) ?_
        refine lv_if_eq (tgt := 64) hx hb dX7_meet_39 (by decide) (fun c_25 => absurd c_25 (by decide)) (fun _ => ?_)
        refine lv_iload hx hb dX7_meet_42 (lv_at hl 0 rfl) ?_
        refine lv_if_eq (tgt := 64) hx hb dX7_meet_44 (by decide) (fun c_26 => absurd c_26 (by decide)) (fun _ => ?_)
        refine lv_bipush (v := 16) hx hb dX7_meet_47 (by decide) ?_
        refine lv_aload_n hx hb dX7_meet_49 rfl (lv_at hl 2 rfl) ?_
        refine lv_iload_n hx hb dX7_meet_50 rfl (lv_at hl 3 rfl) ?_
        refine lv_iconst (v := 4) hx hb dX7_meet_51 (by decide) ?_
        refine lv_ishr hx hb dX7_meet_52 ?_
        refine lv_iload_n hx hb dX7_meet_53 rfl (lv_at hl 4 rfl) ?_
        refine lv_iconst (v := 4) hx hb dX7_meet_54 (by decide) ?_
        refine lv_ishr hx hb dX7_meet_55 ?_
        obtain ⟨r_27, h_27, hf⟩ := x_bi hf
        have hPc := hP.sub (ws' := [(o7, .inr (7, [.ref a7_0, .ref a7_1, .int v7_2])), (a7_0, .inl (cyI, 200, .inl g7_0))]) [0, 1] rfl
        refine va_calli (va_runV (As := [.int (p1 >>> (4 &&& 31)), .int (p2 >>> (4 &&& 31))]) (rest := [.int 16]) ⟨hx, hb, hml, hown, hts⟩ (c_X7_sharedOf l dC dI cyI cyZ cyJ H.size o7 a7_0 a7_1 v7_2 g7_0 (p1 >>> (4 &&& 31)) (p2 >>> (4 &&& 31)) r_27 h_27) (cwV 2 hts gX7_meet_X7_sharedOf rfl rfl rfl (by decide +kernel) ⟨Nat.le_of_ble_eq_true rfl, Nat.le_of_ble_eq_true rfl⟩) (x_pV hN hK hPc (ci := 7) (q0 := 0) rfl rfl) rfl rfl hl.1 rfl (lv_room (Nat.le_of_ble_eq_true rfl)) dX7_meet_56 ⟨Nat.le_of_ble_eq_true rfl, Nat.le_of_ble_eq_true rfl⟩) hS x_nA (x_nf hA hS) (fun q_27 u t H1 locs ht hvm hw hB hz1 hk1 hS => ?_)
        have hP := x_kp hP hk1
        clear ht hvm hB hz1 hk1 t u hPc
        generalize H1 = H at hP hS ⊢
        obtain rfl := hw.symm
        refine lv_imul hx hb dX7_meet_59 ?_
        refine lv_bipush (v := 8) hx hb dX7_meet_60 (by decide) ?_
        refine lv_iadd hx hb dX7_meet_62 ?_
        obtain rfl := Option.some.inj hf
        exact W.iret hx hb hr (fun t ht hW => ⟨⟨_, (), rfl, rfl, trivial⟩, hS.F ht⟩) hS.2.2 dX7_meet_63
  · replace hf := x_ip c_1 hf
    refine lv_iload_n hx hb dX7_meet_5 rfl (lv_at hl 1 rfl) ?_
    obtain rfl := Option.some.inj hf
    exact W.iret hx hb hr (fun t ht hW => ⟨⟨_, (), rfl, rfl, trivial⟩, hS.F ht⟩) hS.2.2 dX7_meet_6

def f_X4_enterField (v4_2 : Int32) (g4_0 : Nat → Int32) (g4_1 : Nat → Int32) (p1 : Int32) (p2 : Int32) : Option (Int32 × Int32 × (Nat → Int32) × (Nat → Int32)) := if x_gd v4_2 100 = true then if x_gd v4_2 100 = true then some (v4_2, v4_2 + (1 : Int32), upd g4_0 (Int32.toNatClampNeg v4_2) p1, upd g4_1 (Int32.toNatClampNeg v4_2) p2) else none else none
theorem i_X4_enterField_X4 : ∀ w ∈ wsX40, w ∈ wsX4_enterField := fun _ h => List.mem_cons_of_mem _ (List.mem_append_right _ h)
set_option maxHeartbeats 4000000 in
set_option maxRecDepth 100000 in
theorem c_X4_enterField (l : Launch) (dC : Nat → ClassId) (dI : Nat → Nat → Nat) (cyI cyZ cyJ : ClassId) (sz : Nat) (o4 : Nat) (a4_0 : Nat) (a4_1 : Nat) (v4_2 : Int32) (a4_3 : Nat) (a4_4 : Nat) (a4_5 : Nat) (a4_6 : Nat) (a4_7 : Nat) (v4_8 : Int32) (g4_0 : Nat → Int32) (g4_1 : Nat → Int32) (p1 : Int32) (p2 : Int32) (R : Int32 × Int32 × (Nat → Int32) × (Nat → Int32)) (hf : f_X4_enterField v4_2 g4_0 g4_1 p1 p2 = some R) : Met l yX4_enterField wsX4_enterField ({ frames := 0, cells := 0, slots := 0, locals := 0 }) (va_Pc [.ref o4, .int p1, .int p2] (x_PreD (dC, dI) (x_T cyI cyZ cyJ) [(o4, .inr (4, [.ref a4_0, .ref a4_1, .int v4_2, .ref a4_3, .ref a4_4, .ref a4_5, .ref a4_6, .ref a4_7, .int v4_8])), (a4_0, .inl (cyI, 100, .inl g4_0)), (a4_1, .inl (cyI, 100, .inl g4_1))] sz)) (va_Qi (fun (r : Int32) (_ : Unit) => r = R.1) (fun (_ : Unit) (t : State) => va_P (dC, dI) vwCl [(o4, .inr (4, [.ref a4_0, .ref a4_1, .int (R.2.1), .ref a4_3, .ref a4_4, .ref a4_5, .ref a4_6, .ref a4_7, .int v4_8])), (a4_0, .inl (cyI, 100, .inl R.2.2.1)), (a4_1, .inl (cyI, 100, .inl R.2.2.2))] t.heap ∧ va_K (dC, dI) vwCl (x_T cyI cyZ cyJ) t ∧ va_D (va_A [(o4, .inr (4, [.ref a4_0, .ref a4_1, .int v4_2, .ref a4_3, .ref a4_4, .ref a4_5, .ref a4_6, .ref a4_7, .int v4_8])), (a4_0, .inl (cyI, 100, .inl g4_0)), (a4_1, .inl (cyI, 100, .inl g4_1))] sz) [(o4, .inr (4, [.ref a4_0, .ref a4_1, .int (R.2.1), .ref a4_3, .ref a4_4, .ref a4_5, .ref a4_6, .ref a4_7, .int v4_8])), (a4_0, .inl (cyI, 100, .inl R.2.2.1)), (a4_1, .inl (cyI, 100, .inl R.2.2.2))]) (va_A [(o4, .inr (4, [.ref a4_0, .ref a4_1, .int v4_2, .ref a4_3, .ref a4_4, .ref a4_5, .ref a4_6, .ref a4_7, .int v4_8])), (a4_0, .inl (cyI, 100, .inl g4_0)), (a4_1, .inl (cyI, 100, .inl g4_1))] sz)) 0 0 (va_A [(o4, .inr (4, [.ref a4_0, .ref a4_1, .int v4_2, .ref a4_3, .ref a4_4, .ref a4_5, .ref a4_6, .ref a4_7, .int v4_8])), (a4_0, .inl (cyI, 100, .inl g4_0)), (a4_1, .inl (cyI, 100, .inl g4_1))] sz) := by
  refine Met.ofW (cc := cX4_enterField) (maxL := 3) (ret := (some .int)) (by decide) rfl ?_
  intro p e s m args below meth c s₁ B hml hv
  obtain ⟨rfl, ⟨hsz, hP, hK, hN⟩, hD0⟩ := hv
  have hx := B.exec
  have hb := B.bytes
  have hr := B.returns
  have hts := atoms_spec (ws := wsX4_enterField) B.pre
  have hown : s.vm.findClass RX4 = some m.cls := findClass_of_methodNamed B.named
  have k_1 := hts (.fieldLink RX4 9 "FlowJudge$Members" "fieldClasses" "[I") (by decide +kernel)
  have k_2 := hts (.fieldLink RX4 34 "FlowJudge$Members" "fieldCount" "I") (by decide +kernel)
  have k_3 := hts (.fieldLink RX4 15 "FlowJudge$Members" "fieldTypes" "[I") (by decide +kernel)
  subst hsz
  have hD := hD0.self (sz := s.heap.size)
  generalize hAe : va_A [(o4, .inr (4, [.ref a4_0, .ref a4_1, .int v4_2, .ref a4_3, .ref a4_4, .ref a4_5, .ref a4_6, .ref a4_7, .int v4_8])), (a4_0, .inl (cyI, 100, .inl g4_0)), (a4_1, .inl (cyI, 100, .inl g4_1))] s.heap.size = A at hD ⊢
  have hA : ∀ q : Nat, s.heap.size ≤ q → A q := fun q h => by rw [← hAe]; exact Or.inr h
  have hP : va_P (dC, dI) vwCl [(o4, .inr (4, [.ref a4_0, .ref a4_1, .int v4_2, .ref a4_3, .ref a4_4, .ref a4_5, .ref a4_6, .ref a4_7, .int v4_8])), (a4_0, .inl (cyI, 100, .inl g4_0)), (a4_1, .inl (cyI, 100, .inl g4_1))] s.heap := hP
  have hl := lv_entry ([.ref o4, .int p1, .int p2]) (n := 3) (Nat.le_of_ble_eq_true rfl)
  rw [lg_entry_eq]
  generalize (lg_sl ([.ref o4, .int p1, .int p2]) ++ List.replicate (3 - (lg_sl ([.ref o4, .int p1, .int p2])).length) Slot.unset).toArray = ls at hl ⊢
  have hl : lv_has ls 3 [(0, .ref o4), (1, .int p1), (2, .int p2)] := hl
  obtain ⟨H, hH⟩ : ∃ z, z = s.heap := ⟨_, rfl⟩
  refine x_here hH ?_
  have hP : va_P (dC, dI) vwCl [(o4, .inr (4, [.ref a4_0, .ref a4_1, .int v4_2, .ref a4_3, .ref a4_4, .ref a4_5, .ref a4_6, .ref a4_7, .int v4_8])), (a4_0, .inl (cyI, 100, .inl g4_0)), (a4_1, .inl (cyI, 100, .inl g4_1))] H := by rw [hH]; exact hP
  have hS : va_S A s.heap H [] := by rw [hH]; exact va_S.rf
  clear hH
  obtain ⟨locs, hlo⟩ : ∃ z : List Loc, z = [] := ⟨_, rfl⟩
  refine x_herl hlo ?_
  have hS : va_S A s.heap H locs := by rw [hlo]; exact hS
  clear hlo
  unfold f_X4_enterField at hf
  refine lv_aload_n hx hb dX4_enterField_0 rfl (lv_at hl 0 rfl) ?_
  refine va_get (D := (dC, dI)) (ci := 4) (v := .ref a4_0) (C := RX4) (T := TX4) (N := 9) hx hb hts i_X4_enterField_X4 hown hK hP 0 rfl rfl 0 (by decide) k_1 (fun _ h9 => h9) rfl dX4_enterField_1 ?_
  refine lv_aload_n hx hb dX4_enterField_4 rfl (lv_at hl 0 rfl) ?_
  refine va_get (D := (dC, dI)) (ci := 4) (v := .int v4_2) (C := RX4) (T := TX4) (N := 9) hx hb hts i_X4_enterField_X4 hown hK hP 0 rfl rfl 2 (by decide) k_2 (fun _ h9 => h9) rfl dX4_enterField_5 ?_
  refine lv_iload_n hx hb dX4_enterField_8 rfl (lv_at hl 1 rfl) ?_
  obtain ⟨g_1, hf⟩ := x_gu hf
  refine va_iast hx hb hK hP hD hS 1 0 rfl rfl (x_gdin g_1) dX4_enterField_9 (fun H locs hP hD hS => ?_)
  have hP : va_P (dC, dI) vwCl [(o4, .inr (4, [.ref a4_0, .ref a4_1, .int v4_2, .ref a4_3, .ref a4_4, .ref a4_5, .ref a4_6, .ref a4_7, .int v4_8])), (a4_0, .inl (cyI, 100, .inl (upd g4_0 (Int32.toNatClampNeg v4_2) p1))), (a4_1, .inl (cyI, 100, .inl g4_1))] H := hP
  have hD : va_D A [(o4, .inr (4, [.ref a4_0, .ref a4_1, .int v4_2, .ref a4_3, .ref a4_4, .ref a4_5, .ref a4_6, .ref a4_7, .int v4_8])), (a4_0, .inl (cyI, 100, .inl (upd g4_0 (Int32.toNatClampNeg v4_2) p1))), (a4_1, .inl (cyI, 100, .inl g4_1))] := hD
  refine lv_aload_n hx hb dX4_enterField_10 rfl (lv_at hl 0 rfl) ?_
  refine va_get (D := (dC, dI)) (ci := 4) (v := .ref a4_1) (C := RX4) (T := TX4) (N := 9) hx hb hts i_X4_enterField_X4 hown hK hP 0 rfl rfl 1 (by decide) k_3 (fun _ h9 => h9) rfl dX4_enterField_11 ?_
  refine lv_aload_n hx hb dX4_enterField_14 rfl (lv_at hl 0 rfl) ?_
  refine va_get (D := (dC, dI)) (ci := 4) (v := .int v4_2) (C := RX4) (T := TX4) (N := 9) hx hb hts i_X4_enterField_X4 hown hK hP 0 rfl rfl 2 (by decide) k_2 (fun _ h9 => h9) rfl dX4_enterField_15 ?_
  refine lv_iload_n hx hb dX4_enterField_18 rfl (lv_at hl 2 rfl) ?_
  obtain ⟨g_2, hf⟩ := x_gu hf
  refine va_iast hx hb hK hP hD hS 2 0 rfl rfl (x_gdin g_2) dX4_enterField_19 (fun H locs hP hD hS => ?_)
  have hP : va_P (dC, dI) vwCl [(o4, .inr (4, [.ref a4_0, .ref a4_1, .int v4_2, .ref a4_3, .ref a4_4, .ref a4_5, .ref a4_6, .ref a4_7, .int v4_8])), (a4_0, .inl (cyI, 100, .inl (upd g4_0 (Int32.toNatClampNeg v4_2) p1))), (a4_1, .inl (cyI, 100, .inl (upd g4_1 (Int32.toNatClampNeg v4_2) p2)))] H := hP
  have hD : va_D A [(o4, .inr (4, [.ref a4_0, .ref a4_1, .int v4_2, .ref a4_3, .ref a4_4, .ref a4_5, .ref a4_6, .ref a4_7, .int v4_8])), (a4_0, .inl (cyI, 100, .inl (upd g4_0 (Int32.toNatClampNeg v4_2) p1))), (a4_1, .inl (cyI, 100, .inl (upd g4_1 (Int32.toNatClampNeg v4_2) p2)))] := hD
  refine lv_aload_n hx hb dX4_enterField_20 rfl (lv_at hl 0 rfl) ?_
  refine lv_dup hx hb dX4_enterField_21 rfl ?_
  refine va_get (D := (dC, dI)) (ci := 4) (v := .int v4_2) (C := RX4) (T := TX4) (N := 9) hx hb hts i_X4_enterField_X4 hown hK hP 0 rfl rfl 2 (by decide) k_2 (fun _ h9 => h9) rfl dX4_enterField_22 ?_
  refine lv_dup_x1 hx hb dX4_enterField_25 rfl rfl ?_
  refine lv_iconst (v := 1) hx hb dX4_enterField_26 (by decide) ?_
  refine lv_iadd hx hb dX4_enterField_27 ?_
  refine va_put (D := (dC, dI)) (ci := 4) (v := .int (v4_2 + (1 : Int32))) (ty := .int) (C := RX4) (T := TX4) (N := 9) hx hb hts i_X4_enterField_X4 tyX4 tyX4_ok nmX4 hown hK hP hD hS 0 rfl rfl 2 (by decide) k_2 (fun _ h9 => h9) rfl (by decide +kernel) rfl rfl (Nat.le_of_ble_eq_true rfl) dX4_enterField_28 (fun H locs hP hD hS => ?_)
  have hP : va_P (dC, dI) vwCl [(o4, .inr (4, [.ref a4_0, .ref a4_1, .int (v4_2 + (1 : Int32)), .ref a4_3, .ref a4_4, .ref a4_5, .ref a4_6, .ref a4_7, .int v4_8])), (a4_0, .inl (cyI, 100, .inl (upd g4_0 (Int32.toNatClampNeg v4_2) p1))), (a4_1, .inl (cyI, 100, .inl (upd g4_1 (Int32.toNatClampNeg v4_2) p2)))] H := hP
  have hD : va_D A [(o4, .inr (4, [.ref a4_0, .ref a4_1, .int (v4_2 + (1 : Int32)), .ref a4_3, .ref a4_4, .ref a4_5, .ref a4_6, .ref a4_7, .int v4_8])), (a4_0, .inl (cyI, 100, .inl (upd g4_0 (Int32.toNatClampNeg v4_2) p1))), (a4_1, .inl (cyI, 100, .inl (upd g4_1 (Int32.toNatClampNeg v4_2) p2)))] := hD
  obtain rfl := Option.some.inj hf
  have hP9 := hP.sub (ws' := [(o4, .inr (4, [.ref a4_0, .ref a4_1, .int (v4_2 + (1 : Int32)), .ref a4_3, .ref a4_4, .ref a4_5, .ref a4_6, .ref a4_7, .int v4_8])), (a4_0, .inl (cyI, 100, .inl (upd g4_0 (Int32.toNatClampNeg v4_2) p1))), (a4_1, .inl (cyI, 100, .inl (upd g4_1 (Int32.toNatClampNeg v4_2) p2)))]) [0, 1, 2] rfl
  have hD9 := hD.sub (ws' := [(o4, .inr (4, [.ref a4_0, .ref a4_1, .int (v4_2 + (1 : Int32)), .ref a4_3, .ref a4_4, .ref a4_5, .ref a4_6, .ref a4_7, .int v4_8])), (a4_0, .inl (cyI, 100, .inl (upd g4_0 (Int32.toNatClampNeg v4_2) p1))), (a4_1, .inl (cyI, 100, .inl (upd g4_1 (Int32.toNatClampNeg v4_2) p2)))]) [0, 1, 2] (by decide) rfl
  exact W.iret hx hb hr (fun t ht hW => ⟨⟨_, (), rfl, rfl, by rw [ht]; exact hP9, va_K.moved hW.alike hK, hD9⟩, hS.F ht⟩) hS.2.2 dX4_enterField_31

def f_X4_enterShape (v4_8 : Int32) (g4_3 : Nat → Int32) (g4_4 : Nat → Int32) (g4_5 : Nat → Int32) (p1 : Int32) (p2 : Int32) (p3 : Int32) : Option (Int32 × Int32 × (Nat → Int32) × (Nat → Int32) × (Nat → Int32)) := if x_gd v4_8 100 = true then if x_gd v4_8 100 = true then if x_gd v4_8 100 = true then some (v4_8, v4_8 + (1 : Int32), upd g4_3 (Int32.toNatClampNeg v4_8) p1, upd g4_4 (Int32.toNatClampNeg v4_8) p2, upd g4_5 (Int32.toNatClampNeg v4_8) (vp_nar .boolean p3)) else none else none else none
theorem i_X4_enterShape_X4 : ∀ w ∈ wsX40, w ∈ wsX4_enterShape := fun _ h => List.mem_cons_of_mem _ (List.mem_append_right _ h)
set_option maxHeartbeats 4000000 in
set_option maxRecDepth 100000 in
theorem c_X4_enterShape (l : Launch) (dC : Nat → ClassId) (dI : Nat → Nat → Nat) (cyI cyZ cyJ : ClassId) (sz : Nat) (o4 : Nat) (a4_0 : Nat) (a4_1 : Nat) (v4_2 : Int32) (a4_3 : Nat) (a4_4 : Nat) (a4_5 : Nat) (a4_6 : Nat) (a4_7 : Nat) (v4_8 : Int32) (g4_3 : Nat → Int32) (g4_4 : Nat → Int32) (g4_5 : Nat → Int32) (p1 : Int32) (p2 : Int32) (p3 : Int32) (R : Int32 × Int32 × (Nat → Int32) × (Nat → Int32) × (Nat → Int32)) (hf : f_X4_enterShape v4_8 g4_3 g4_4 g4_5 p1 p2 p3 = some R) : Met l yX4_enterShape wsX4_enterShape ({ frames := 0, cells := 0, slots := 0, locals := 0 }) (va_Pc [.ref o4, .int p1, .int p2, .int p3] (x_PreD (dC, dI) (x_T cyI cyZ cyJ) [(o4, .inr (4, [.ref a4_0, .ref a4_1, .int v4_2, .ref a4_3, .ref a4_4, .ref a4_5, .ref a4_6, .ref a4_7, .int v4_8])), (a4_3, .inl (cyI, 100, .inl g4_3)), (a4_4, .inl (cyI, 100, .inl g4_4)), (a4_5, .inl (cyZ, 100, .inl g4_5))] sz)) (va_Qi (fun (r : Int32) (_ : Unit) => r = R.1) (fun (_ : Unit) (t : State) => va_P (dC, dI) vwCl [(o4, .inr (4, [.ref a4_0, .ref a4_1, .int v4_2, .ref a4_3, .ref a4_4, .ref a4_5, .ref a4_6, .ref a4_7, .int (R.2.1)])), (a4_3, .inl (cyI, 100, .inl R.2.2.1)), (a4_4, .inl (cyI, 100, .inl R.2.2.2.1)), (a4_5, .inl (cyZ, 100, .inl R.2.2.2.2))] t.heap ∧ va_K (dC, dI) vwCl (x_T cyI cyZ cyJ) t ∧ va_D (va_A [(o4, .inr (4, [.ref a4_0, .ref a4_1, .int v4_2, .ref a4_3, .ref a4_4, .ref a4_5, .ref a4_6, .ref a4_7, .int v4_8])), (a4_3, .inl (cyI, 100, .inl g4_3)), (a4_4, .inl (cyI, 100, .inl g4_4)), (a4_5, .inl (cyZ, 100, .inl g4_5))] sz) [(o4, .inr (4, [.ref a4_0, .ref a4_1, .int v4_2, .ref a4_3, .ref a4_4, .ref a4_5, .ref a4_6, .ref a4_7, .int (R.2.1)])), (a4_3, .inl (cyI, 100, .inl R.2.2.1)), (a4_4, .inl (cyI, 100, .inl R.2.2.2.1)), (a4_5, .inl (cyZ, 100, .inl R.2.2.2.2))]) (va_A [(o4, .inr (4, [.ref a4_0, .ref a4_1, .int v4_2, .ref a4_3, .ref a4_4, .ref a4_5, .ref a4_6, .ref a4_7, .int v4_8])), (a4_3, .inl (cyI, 100, .inl g4_3)), (a4_4, .inl (cyI, 100, .inl g4_4)), (a4_5, .inl (cyZ, 100, .inl g4_5))] sz)) 0 0 (va_A [(o4, .inr (4, [.ref a4_0, .ref a4_1, .int v4_2, .ref a4_3, .ref a4_4, .ref a4_5, .ref a4_6, .ref a4_7, .int v4_8])), (a4_3, .inl (cyI, 100, .inl g4_3)), (a4_4, .inl (cyI, 100, .inl g4_4)), (a4_5, .inl (cyZ, 100, .inl g4_5))] sz) := by
  refine Met.ofW (cc := cX4_enterShape) (maxL := 4) (ret := (some .int)) (by decide) rfl ?_
  intro p e s m args below meth c s₁ B hml hv
  obtain ⟨rfl, ⟨hsz, hP, hK, hN⟩, hD0⟩ := hv
  have hx := B.exec
  have hb := B.bytes
  have hr := B.returns
  have hts := atoms_spec (ws := wsX4_enterShape) B.pre
  have hown : s.vm.findClass RX4 = some m.cls := findClass_of_methodNamed B.named
  have k_1 := hts (.fieldLink RX4 18 "FlowJudge$Members" "shapeClasses" "[I") (by decide +kernel)
  have k_2 := hts (.fieldLink RX4 38 "FlowJudge$Members" "shapeCount" "I") (by decide +kernel)
  have k_3 := hts (.fieldLink RX4 21 "FlowJudge$Members" "shapeResults" "[I") (by decide +kernel)
  have k_4 := hts (.fieldLink RX4 24 "FlowJudge$Members" "isConstructor" "[Z") (by decide +kernel)
  subst hsz
  have hD := hD0.self (sz := s.heap.size)
  generalize hAe : va_A [(o4, .inr (4, [.ref a4_0, .ref a4_1, .int v4_2, .ref a4_3, .ref a4_4, .ref a4_5, .ref a4_6, .ref a4_7, .int v4_8])), (a4_3, .inl (cyI, 100, .inl g4_3)), (a4_4, .inl (cyI, 100, .inl g4_4)), (a4_5, .inl (cyZ, 100, .inl g4_5))] s.heap.size = A at hD ⊢
  have hA : ∀ q : Nat, s.heap.size ≤ q → A q := fun q h => by rw [← hAe]; exact Or.inr h
  have hP : va_P (dC, dI) vwCl [(o4, .inr (4, [.ref a4_0, .ref a4_1, .int v4_2, .ref a4_3, .ref a4_4, .ref a4_5, .ref a4_6, .ref a4_7, .int v4_8])), (a4_3, .inl (cyI, 100, .inl g4_3)), (a4_4, .inl (cyI, 100, .inl g4_4)), (a4_5, .inl (cyZ, 100, .inl g4_5))] s.heap := hP
  have hl := lv_entry ([.ref o4, .int p1, .int p2, .int p3]) (n := 4) (Nat.le_of_ble_eq_true rfl)
  rw [lg_entry_eq]
  generalize (lg_sl ([.ref o4, .int p1, .int p2, .int p3]) ++ List.replicate (4 - (lg_sl ([.ref o4, .int p1, .int p2, .int p3])).length) Slot.unset).toArray = ls at hl ⊢
  have hl : lv_has ls 4 [(0, .ref o4), (1, .int p1), (2, .int p2), (3, .int p3)] := hl
  obtain ⟨H, hH⟩ : ∃ z, z = s.heap := ⟨_, rfl⟩
  refine x_here hH ?_
  have hP : va_P (dC, dI) vwCl [(o4, .inr (4, [.ref a4_0, .ref a4_1, .int v4_2, .ref a4_3, .ref a4_4, .ref a4_5, .ref a4_6, .ref a4_7, .int v4_8])), (a4_3, .inl (cyI, 100, .inl g4_3)), (a4_4, .inl (cyI, 100, .inl g4_4)), (a4_5, .inl (cyZ, 100, .inl g4_5))] H := by rw [hH]; exact hP
  have hS : va_S A s.heap H [] := by rw [hH]; exact va_S.rf
  clear hH
  obtain ⟨locs, hlo⟩ : ∃ z : List Loc, z = [] := ⟨_, rfl⟩
  refine x_herl hlo ?_
  have hS : va_S A s.heap H locs := by rw [hlo]; exact hS
  clear hlo
  unfold f_X4_enterShape at hf
  refine lv_aload_n hx hb dX4_enterShape_0 rfl (lv_at hl 0 rfl) ?_
  refine va_get (D := (dC, dI)) (ci := 4) (v := .ref a4_3) (C := RX4) (T := TX4) (N := 9) hx hb hts i_X4_enterShape_X4 hown hK hP 0 rfl rfl 3 (by decide) k_1 (fun _ h9 => h9) rfl dX4_enterShape_1 ?_
  refine lv_aload_n hx hb dX4_enterShape_4 rfl (lv_at hl 0 rfl) ?_
  refine va_get (D := (dC, dI)) (ci := 4) (v := .int v4_8) (C := RX4) (T := TX4) (N := 9) hx hb hts i_X4_enterShape_X4 hown hK hP 0 rfl rfl 8 (by decide) k_2 (fun _ h9 => h9) rfl dX4_enterShape_5 ?_
  refine lv_iload_n hx hb dX4_enterShape_8 rfl (lv_at hl 1 rfl) ?_
  obtain ⟨g_1, hf⟩ := x_gu hf
  refine va_iast hx hb hK hP hD hS 1 0 rfl rfl (x_gdin g_1) dX4_enterShape_9 (fun H locs hP hD hS => ?_)
  have hP : va_P (dC, dI) vwCl [(o4, .inr (4, [.ref a4_0, .ref a4_1, .int v4_2, .ref a4_3, .ref a4_4, .ref a4_5, .ref a4_6, .ref a4_7, .int v4_8])), (a4_3, .inl (cyI, 100, .inl (upd g4_3 (Int32.toNatClampNeg v4_8) p1))), (a4_4, .inl (cyI, 100, .inl g4_4)), (a4_5, .inl (cyZ, 100, .inl g4_5))] H := hP
  have hD : va_D A [(o4, .inr (4, [.ref a4_0, .ref a4_1, .int v4_2, .ref a4_3, .ref a4_4, .ref a4_5, .ref a4_6, .ref a4_7, .int v4_8])), (a4_3, .inl (cyI, 100, .inl (upd g4_3 (Int32.toNatClampNeg v4_8) p1))), (a4_4, .inl (cyI, 100, .inl g4_4)), (a4_5, .inl (cyZ, 100, .inl g4_5))] := hD
  refine lv_aload_n hx hb dX4_enterShape_10 rfl (lv_at hl 0 rfl) ?_
  refine va_get (D := (dC, dI)) (ci := 4) (v := .ref a4_4) (C := RX4) (T := TX4) (N := 9) hx hb hts i_X4_enterShape_X4 hown hK hP 0 rfl rfl 4 (by decide) k_3 (fun _ h9 => h9) rfl dX4_enterShape_11 ?_
  refine lv_aload_n hx hb dX4_enterShape_14 rfl (lv_at hl 0 rfl) ?_
  refine va_get (D := (dC, dI)) (ci := 4) (v := .int v4_8) (C := RX4) (T := TX4) (N := 9) hx hb hts i_X4_enterShape_X4 hown hK hP 0 rfl rfl 8 (by decide) k_2 (fun _ h9 => h9) rfl dX4_enterShape_15 ?_
  refine lv_iload_n hx hb dX4_enterShape_18 rfl (lv_at hl 2 rfl) ?_
  obtain ⟨g_2, hf⟩ := x_gu hf
  refine va_iast hx hb hK hP hD hS 2 0 rfl rfl (x_gdin g_2) dX4_enterShape_19 (fun H locs hP hD hS => ?_)
  have hP : va_P (dC, dI) vwCl [(o4, .inr (4, [.ref a4_0, .ref a4_1, .int v4_2, .ref a4_3, .ref a4_4, .ref a4_5, .ref a4_6, .ref a4_7, .int v4_8])), (a4_3, .inl (cyI, 100, .inl (upd g4_3 (Int32.toNatClampNeg v4_8) p1))), (a4_4, .inl (cyI, 100, .inl (upd g4_4 (Int32.toNatClampNeg v4_8) p2))), (a4_5, .inl (cyZ, 100, .inl g4_5))] H := hP
  have hD : va_D A [(o4, .inr (4, [.ref a4_0, .ref a4_1, .int v4_2, .ref a4_3, .ref a4_4, .ref a4_5, .ref a4_6, .ref a4_7, .int v4_8])), (a4_3, .inl (cyI, 100, .inl (upd g4_3 (Int32.toNatClampNeg v4_8) p1))), (a4_4, .inl (cyI, 100, .inl (upd g4_4 (Int32.toNatClampNeg v4_8) p2))), (a4_5, .inl (cyZ, 100, .inl g4_5))] := hD
  refine lv_aload_n hx hb dX4_enterShape_20 rfl (lv_at hl 0 rfl) ?_
  refine va_get (D := (dC, dI)) (ci := 4) (v := .ref a4_5) (C := RX4) (T := TX4) (N := 9) hx hb hts i_X4_enterShape_X4 hown hK hP 0 rfl rfl 5 (by decide) k_4 (fun _ h9 => h9) rfl dX4_enterShape_21 ?_
  refine lv_aload_n hx hb dX4_enterShape_24 rfl (lv_at hl 0 rfl) ?_
  refine va_get (D := (dC, dI)) (ci := 4) (v := .int v4_8) (C := RX4) (T := TX4) (N := 9) hx hb hts i_X4_enterShape_X4 hown hK hP 0 rfl rfl 8 (by decide) k_2 (fun _ h9 => h9) rfl dX4_enterShape_25 ?_
  refine lv_iload_n hx hb dX4_enterShape_28 rfl (lv_at hl 3 rfl) ?_
  obtain ⟨g_3, hf⟩ := x_gu hf
  refine va_zast hx hb hK hP hD hS 3 1 rfl rfl (x_gdin g_3) dX4_enterShape_29 (fun H locs hP hD hS => ?_)
  have hP : va_P (dC, dI) vwCl [(o4, .inr (4, [.ref a4_0, .ref a4_1, .int v4_2, .ref a4_3, .ref a4_4, .ref a4_5, .ref a4_6, .ref a4_7, .int v4_8])), (a4_3, .inl (cyI, 100, .inl (upd g4_3 (Int32.toNatClampNeg v4_8) p1))), (a4_4, .inl (cyI, 100, .inl (upd g4_4 (Int32.toNatClampNeg v4_8) p2))), (a4_5, .inl (cyZ, 100, .inl (upd g4_5 (Int32.toNatClampNeg v4_8) (vp_nar .boolean p3))))] H := hP
  have hD : va_D A [(o4, .inr (4, [.ref a4_0, .ref a4_1, .int v4_2, .ref a4_3, .ref a4_4, .ref a4_5, .ref a4_6, .ref a4_7, .int v4_8])), (a4_3, .inl (cyI, 100, .inl (upd g4_3 (Int32.toNatClampNeg v4_8) p1))), (a4_4, .inl (cyI, 100, .inl (upd g4_4 (Int32.toNatClampNeg v4_8) p2))), (a4_5, .inl (cyZ, 100, .inl (upd g4_5 (Int32.toNatClampNeg v4_8) (vp_nar .boolean p3))))] := hD
  refine lv_aload_n hx hb dX4_enterShape_30 rfl (lv_at hl 0 rfl) ?_
  refine lv_dup hx hb dX4_enterShape_31 rfl ?_
  refine va_get (D := (dC, dI)) (ci := 4) (v := .int v4_8) (C := RX4) (T := TX4) (N := 9) hx hb hts i_X4_enterShape_X4 hown hK hP 0 rfl rfl 8 (by decide) k_2 (fun _ h9 => h9) rfl dX4_enterShape_32 ?_
  refine lv_dup_x1 hx hb dX4_enterShape_35 rfl rfl ?_
  refine lv_iconst (v := 1) hx hb dX4_enterShape_36 (by decide) ?_
  refine lv_iadd hx hb dX4_enterShape_37 ?_
  refine va_put (D := (dC, dI)) (ci := 4) (v := .int (v4_8 + (1 : Int32))) (ty := .int) (C := RX4) (T := TX4) (N := 9) hx hb hts i_X4_enterShape_X4 tyX4 tyX4_ok nmX4 hown hK hP hD hS 0 rfl rfl 8 (by decide) k_2 (fun _ h9 => h9) rfl (by decide +kernel) rfl rfl (Nat.le_of_ble_eq_true rfl) dX4_enterShape_38 (fun H locs hP hD hS => ?_)
  have hP : va_P (dC, dI) vwCl [(o4, .inr (4, [.ref a4_0, .ref a4_1, .int v4_2, .ref a4_3, .ref a4_4, .ref a4_5, .ref a4_6, .ref a4_7, .int (v4_8 + (1 : Int32))])), (a4_3, .inl (cyI, 100, .inl (upd g4_3 (Int32.toNatClampNeg v4_8) p1))), (a4_4, .inl (cyI, 100, .inl (upd g4_4 (Int32.toNatClampNeg v4_8) p2))), (a4_5, .inl (cyZ, 100, .inl (upd g4_5 (Int32.toNatClampNeg v4_8) (vp_nar .boolean p3))))] H := hP
  have hD : va_D A [(o4, .inr (4, [.ref a4_0, .ref a4_1, .int v4_2, .ref a4_3, .ref a4_4, .ref a4_5, .ref a4_6, .ref a4_7, .int (v4_8 + (1 : Int32))])), (a4_3, .inl (cyI, 100, .inl (upd g4_3 (Int32.toNatClampNeg v4_8) p1))), (a4_4, .inl (cyI, 100, .inl (upd g4_4 (Int32.toNatClampNeg v4_8) p2))), (a4_5, .inl (cyZ, 100, .inl (upd g4_5 (Int32.toNatClampNeg v4_8) (vp_nar .boolean p3))))] := hD
  obtain rfl := Option.some.inj hf
  have hP9 := hP.sub (ws' := [(o4, .inr (4, [.ref a4_0, .ref a4_1, .int v4_2, .ref a4_3, .ref a4_4, .ref a4_5, .ref a4_6, .ref a4_7, .int (v4_8 + (1 : Int32))])), (a4_3, .inl (cyI, 100, .inl (upd g4_3 (Int32.toNatClampNeg v4_8) p1))), (a4_4, .inl (cyI, 100, .inl (upd g4_4 (Int32.toNatClampNeg v4_8) p2))), (a4_5, .inl (cyZ, 100, .inl (upd g4_5 (Int32.toNatClampNeg v4_8) (vp_nar .boolean p3))))]) [0, 1, 2, 3] rfl
  have hD9 := hD.sub (ws' := [(o4, .inr (4, [.ref a4_0, .ref a4_1, .int v4_2, .ref a4_3, .ref a4_4, .ref a4_5, .ref a4_6, .ref a4_7, .int (v4_8 + (1 : Int32))])), (a4_3, .inl (cyI, 100, .inl (upd g4_3 (Int32.toNatClampNeg v4_8) p1))), (a4_4, .inl (cyI, 100, .inl (upd g4_4 (Int32.toNatClampNeg v4_8) p2))), (a4_5, .inl (cyZ, 100, .inl (upd g4_5 (Int32.toNatClampNeg v4_8) (vp_nar .boolean p3))))]) [0, 1, 2, 3] (by decide) rfl
  exact W.iret hx hb hr (fun t ht hW => ⟨⟨_, (), rfl, rfl, by rw [ht]; exact hP9, va_K.moved hW.alike hK, hD9⟩, hS.F ht⟩) hS.2.2 dX4_enterShape_41

def f_X4_canTakeMore (v4_8 : Int32) (g4_7 : Nat → Int32) : Option (Int32) := if v4_8 ≤ (0 : Int32) then some 0 else if x_gd (v4_8 - (1 : Int32)) 100 = true then if (20 : Int32) ≤ (g4_7 (Int32.toNatClampNeg (v4_8 - (1 : Int32)))) then some 0 else some 1 else none
theorem i_X4_canTakeMore_X4 : ∀ w ∈ wsX40, w ∈ wsX4_canTakeMore := fun _ h => List.mem_cons_of_mem _ (List.mem_append_right _ h)
set_option maxHeartbeats 4000000 in
set_option maxRecDepth 100000 in
theorem c_X4_canTakeMore (l : Launch) (dC : Nat → ClassId) (dI : Nat → Nat → Nat) (cyI cyZ cyJ : ClassId) (sz : Nat) (o4 : Nat) (a4_0 : Nat) (a4_1 : Nat) (v4_2 : Int32) (a4_3 : Nat) (a4_4 : Nat) (a4_5 : Nat) (a4_6 : Nat) (a4_7 : Nat) (v4_8 : Int32) (g4_7 : Nat → Int32) (R : Int32) (hf : f_X4_canTakeMore v4_8 g4_7 = some R) : Met l yX4_canTakeMore wsX4_canTakeMore ({ frames := 0, cells := 0, slots := 0, locals := 0 }) (va_Pc [.ref o4] (x_Pre (dC, dI) (x_T cyI cyZ cyJ) [(o4, .inr (4, [.ref a4_0, .ref a4_1, .int v4_2, .ref a4_3, .ref a4_4, .ref a4_5, .ref a4_6, .ref a4_7, .int v4_8])), (a4_7, .inl (cyI, 100, .inl g4_7))] sz)) (va_Qi (fun (r : Int32) (_ : Unit) => r = R ∧ x_nb r) (fun _ _ => True) (x_new sz)) 0 0 (x_new sz) := by
  refine Met.ofW (cc := cX4_canTakeMore) (maxL := 1) (ret := (some .boolean)) (by decide) rfl ?_
  intro p e s m args below meth c s₁ B hml hv
  obtain ⟨rfl, hsz, hP, hK, hN⟩ := hv
  have hx := B.exec
  have hb := B.bytes
  have hr := B.returns
  have hts := atoms_spec (ws := wsX4_canTakeMore) B.pre
  have hown : s.vm.findClass RX4 = some m.cls := findClass_of_methodNamed B.named
  have k_1 := hts (.fieldLink RX4 38 "FlowJudge$Members" "shapeCount" "I") (by decide +kernel)
  have k_2 := hts (.fieldLink RX4 31 "FlowJudge$Members" "takenCounts" "[I") (by decide +kernel)
  subst hsz
  have hA : ∀ q : Nat, s.heap.size ≤ q → x_new s.heap.size q := fun _ h => h
  have hS : va_S (x_new s.heap.size) s.heap s.heap [] := va_S.rf
  have hP : va_P (dC, dI) vwCl [(o4, .inr (4, [.ref a4_0, .ref a4_1, .int v4_2, .ref a4_3, .ref a4_4, .ref a4_5, .ref a4_6, .ref a4_7, .int v4_8])), (a4_7, .inl (cyI, 100, .inl g4_7))] s.heap := hP
  have hl := lv_entry ([.ref o4]) (n := 1) (Nat.le_of_ble_eq_true rfl)
  rw [lg_entry_eq]
  generalize (lg_sl ([.ref o4]) ++ List.replicate (1 - (lg_sl ([.ref o4])).length) Slot.unset).toArray = ls at hl ⊢
  have hl : lv_has ls 1 [(0, .ref o4)] := hl
  obtain ⟨H, hH⟩ : ∃ z, z = s.heap := ⟨_, rfl⟩
  refine x_here hH ?_
  have hP : va_P (dC, dI) vwCl [(o4, .inr (4, [.ref a4_0, .ref a4_1, .int v4_2, .ref a4_3, .ref a4_4, .ref a4_5, .ref a4_6, .ref a4_7, .int v4_8])), (a4_7, .inl (cyI, 100, .inl g4_7))] H := by rw [hH]; exact hP
  have hS : va_S (x_new s.heap.size) s.heap H [] := by rw [hH]; exact va_S.rf
  clear hH
  obtain ⟨locs, hlo⟩ : ∃ z : List Loc, z = [] := ⟨_, rfl⟩
  refine x_herl hlo ?_
  have hS : va_S (x_new s.heap.size) s.heap H locs := by rw [hlo]; exact hS
  clear hlo
  unfold f_X4_canTakeMore at hf
  refine lv_aload_n hx hb dX4_canTakeMore_0 rfl (lv_at hl 0 rfl) ?_
  refine va_get (D := (dC, dI)) (ci := 4) (v := .int v4_8) (C := RX4) (T := TX4) (N := 9) hx hb hts i_X4_canTakeMore_X4 hown hK hP 0 rfl rfl 8 (by decide) k_1 (fun _ h9 => h9) rfl dX4_canTakeMore_1 ?_
  refine lv_if_le (tgt := 27) hx hb dX4_canTakeMore_4 (by decide) (fun c_1 => ?_) (fun c_1 => ?_)
  · replace hf := x_ip c_1 hf
    refine lv_iconst (v := 0) hx hb dX4_canTakeMore_27 (by decide) ?_
    obtain rfl := Option.some.inj hf
    exact W.zret (ty := .boolean) hx hb hr rfl (fun t ht hW => ⟨⟨_, (), rfl, ⟨rfl, rfl⟩, trivial⟩, hS.F ht⟩) hS.2.2 dX4_canTakeMore_28
  · replace hf := x_in c_1 hf
    refine lv_aload_n hx hb dX4_canTakeMore_7 rfl (lv_at hl 0 rfl) ?_
    refine va_get (D := (dC, dI)) (ci := 4) (v := .ref a4_7) (C := RX4) (T := TX4) (N := 9) hx hb hts i_X4_canTakeMore_X4 hown hK hP 0 rfl rfl 7 (by decide) k_2 (fun _ h9 => h9) rfl dX4_canTakeMore_8 ?_
    refine lv_aload_n hx hb dX4_canTakeMore_11 rfl (lv_at hl 0 rfl) ?_
    refine va_get (D := (dC, dI)) (ci := 4) (v := .int v4_8) (C := RX4) (T := TX4) (N := 9) hx hb hts i_X4_canTakeMore_X4 hown hK hP 0 rfl rfl 8 (by decide) k_1 (fun _ h9 => h9) rfl dX4_canTakeMore_12 ?_
    refine lv_iconst (v := 1) hx hb dX4_canTakeMore_15 (by decide) ?_
    refine lv_isub hx hb dX4_canTakeMore_16 ?_
    obtain ⟨g_2, hf⟩ := x_gu hf
    refine va_iald hx hb hK hP 1 0 rfl rfl (x_gdin g_2) dX4_canTakeMore_17 ?_
    refine lv_bipush (v := 20) hx hb dX4_canTakeMore_18 (by decide) ?_
    refine lv_icmp_ge (tgt := 27) hx hb dX4_canTakeMore_20 (by decide) (fun c_3 => ?_) (fun c_3 => ?_)
    · replace hf := x_ip c_3 hf
      refine lv_iconst (v := 0) hx hb dX4_canTakeMore_27 (by decide) ?_
      obtain rfl := Option.some.inj hf
      exact W.zret (ty := .boolean) hx hb hr rfl (fun t ht hW => ⟨⟨_, (), rfl, ⟨rfl, rfl⟩, trivial⟩, hS.F ht⟩) hS.2.2 dX4_canTakeMore_28
    · replace hf := x_in c_3 hf
      refine lv_iconst (v := 1) hx hb dX4_canTakeMore_23 (by decide) ?_
      refine lv_goto (tgt := 28) hx hb dX4_canTakeMore_24 (by decide) ?_
      obtain rfl := Option.some.inj hf
      exact W.zret (ty := .boolean) hx hb hr rfl (fun t ht hW => ⟨⟨_, (), rfl, ⟨rfl, rfl⟩, trivial⟩, hS.F ht⟩) hS.2.2 dX4_canTakeMore_28

def f_X4_takeMore (v4_8 : Int32) (g4_6 : Nat → Int32) (g4_7 : Nat → Int32) (p1 : Int32) : Option (Int32 × (Nat → Int32) × (Nat → Int32)) := if x_gd (v4_8 - (1 : Int32)) 100 = true then if x_gd (((v4_8 - (1 : Int32)) * (20 : Int32)) + (g4_7 (Int32.toNatClampNeg (v4_8 - (1 : Int32))))) 2000 = true then if x_gd (v4_8 - (1 : Int32)) 100 = true then if x_gd (v4_8 - (1 : Int32)) 100 = true then if x_gd (v4_8 - (1 : Int32)) 100 = true then some ((upd g4_7 (Int32.toNatClampNeg (v4_8 - (1 : Int32))) ((g4_7 (Int32.toNatClampNeg (v4_8 - (1 : Int32)))) + (1 : Int32))) (Int32.toNatClampNeg (v4_8 - (1 : Int32))), upd g4_6 (Int32.toNatClampNeg (((v4_8 - (1 : Int32)) * (20 : Int32)) + (g4_7 (Int32.toNatClampNeg (v4_8 - (1 : Int32)))))) p1, upd g4_7 (Int32.toNatClampNeg (v4_8 - (1 : Int32))) ((g4_7 (Int32.toNatClampNeg (v4_8 - (1 : Int32)))) + (1 : Int32))) else none else none else none else none else none
theorem i_X4_takeMore_X4 : ∀ w ∈ wsX40, w ∈ wsX4_takeMore := fun _ h => List.mem_cons_of_mem _ (List.mem_append_right _ h)
set_option maxHeartbeats 4000000 in
set_option maxRecDepth 100000 in
theorem c_X4_takeMore (l : Launch) (dC : Nat → ClassId) (dI : Nat → Nat → Nat) (cyI cyZ cyJ : ClassId) (sz : Nat) (o4 : Nat) (a4_0 : Nat) (a4_1 : Nat) (v4_2 : Int32) (a4_3 : Nat) (a4_4 : Nat) (a4_5 : Nat) (a4_6 : Nat) (a4_7 : Nat) (v4_8 : Int32) (g4_6 : Nat → Int32) (g4_7 : Nat → Int32) (p1 : Int32) (R : Int32 × (Nat → Int32) × (Nat → Int32)) (hf : f_X4_takeMore v4_8 g4_6 g4_7 p1 = some R) : Met l yX4_takeMore wsX4_takeMore ({ frames := 0, cells := 0, slots := 0, locals := 0 }) (va_Pc [.ref o4, .int p1] (x_PreD (dC, dI) (x_T cyI cyZ cyJ) [(o4, .inr (4, [.ref a4_0, .ref a4_1, .int v4_2, .ref a4_3, .ref a4_4, .ref a4_5, .ref a4_6, .ref a4_7, .int v4_8])), (a4_6, .inl (cyI, 2000, .inl g4_6)), (a4_7, .inl (cyI, 100, .inl g4_7))] sz)) (va_Qi (fun (r : Int32) (_ : Unit) => r = R.1) (fun (_ : Unit) (t : State) => va_P (dC, dI) vwCl [(o4, .inr (4, [.ref a4_0, .ref a4_1, .int v4_2, .ref a4_3, .ref a4_4, .ref a4_5, .ref a4_6, .ref a4_7, .int v4_8])), (a4_6, .inl (cyI, 2000, .inl R.2.1)), (a4_7, .inl (cyI, 100, .inl R.2.2))] t.heap ∧ va_K (dC, dI) vwCl (x_T cyI cyZ cyJ) t ∧ va_D (va_A [(o4, .inr (4, [.ref a4_0, .ref a4_1, .int v4_2, .ref a4_3, .ref a4_4, .ref a4_5, .ref a4_6, .ref a4_7, .int v4_8])), (a4_6, .inl (cyI, 2000, .inl g4_6)), (a4_7, .inl (cyI, 100, .inl g4_7))] sz) [(o4, .inr (4, [.ref a4_0, .ref a4_1, .int v4_2, .ref a4_3, .ref a4_4, .ref a4_5, .ref a4_6, .ref a4_7, .int v4_8])), (a4_6, .inl (cyI, 2000, .inl R.2.1)), (a4_7, .inl (cyI, 100, .inl R.2.2))]) (va_A [(o4, .inr (4, [.ref a4_0, .ref a4_1, .int v4_2, .ref a4_3, .ref a4_4, .ref a4_5, .ref a4_6, .ref a4_7, .int v4_8])), (a4_6, .inl (cyI, 2000, .inl g4_6)), (a4_7, .inl (cyI, 100, .inl g4_7))] sz)) 0 0 (va_A [(o4, .inr (4, [.ref a4_0, .ref a4_1, .int v4_2, .ref a4_3, .ref a4_4, .ref a4_5, .ref a4_6, .ref a4_7, .int v4_8])), (a4_6, .inl (cyI, 2000, .inl g4_6)), (a4_7, .inl (cyI, 100, .inl g4_7))] sz) := by
  refine Met.ofW (cc := cX4_takeMore) (maxL := 3) (ret := (some .int)) (by decide) rfl ?_
  intro p e s m args below meth c s₁ B hml hv
  obtain ⟨rfl, ⟨hsz, hP, hK, hN⟩, hD0⟩ := hv
  have hx := B.exec
  have hb := B.bytes
  have hr := B.returns
  have hts := atoms_spec (ws := wsX4_takeMore) B.pre
  have hown : s.vm.findClass RX4 = some m.cls := findClass_of_methodNamed B.named
  have k_1 := hts (.fieldLink RX4 38 "FlowJudge$Members" "shapeCount" "I") (by decide +kernel)
  have k_2 := hts (.fieldLink RX4 28 "FlowJudge$Members" "taken" "[I") (by decide +kernel)
  have k_3 := hts (.fieldLink RX4 31 "FlowJudge$Members" "takenCounts" "[I") (by decide +kernel)
  subst hsz
  have hD := hD0.self (sz := s.heap.size)
  generalize hAe : va_A [(o4, .inr (4, [.ref a4_0, .ref a4_1, .int v4_2, .ref a4_3, .ref a4_4, .ref a4_5, .ref a4_6, .ref a4_7, .int v4_8])), (a4_6, .inl (cyI, 2000, .inl g4_6)), (a4_7, .inl (cyI, 100, .inl g4_7))] s.heap.size = A at hD ⊢
  have hA : ∀ q : Nat, s.heap.size ≤ q → A q := fun q h => by rw [← hAe]; exact Or.inr h
  have hP : va_P (dC, dI) vwCl [(o4, .inr (4, [.ref a4_0, .ref a4_1, .int v4_2, .ref a4_3, .ref a4_4, .ref a4_5, .ref a4_6, .ref a4_7, .int v4_8])), (a4_6, .inl (cyI, 2000, .inl g4_6)), (a4_7, .inl (cyI, 100, .inl g4_7))] s.heap := hP
  have hl := lv_entry ([.ref o4, .int p1]) (n := 3) (Nat.le_of_ble_eq_true rfl)
  rw [lg_entry_eq]
  generalize (lg_sl ([.ref o4, .int p1]) ++ List.replicate (3 - (lg_sl ([.ref o4, .int p1])).length) Slot.unset).toArray = ls at hl ⊢
  have hl : lv_has ls 3 [(0, .ref o4), (1, .int p1)] := hl
  obtain ⟨H, hH⟩ : ∃ z, z = s.heap := ⟨_, rfl⟩
  refine x_here hH ?_
  have hP : va_P (dC, dI) vwCl [(o4, .inr (4, [.ref a4_0, .ref a4_1, .int v4_2, .ref a4_3, .ref a4_4, .ref a4_5, .ref a4_6, .ref a4_7, .int v4_8])), (a4_6, .inl (cyI, 2000, .inl g4_6)), (a4_7, .inl (cyI, 100, .inl g4_7))] H := by rw [hH]; exact hP
  have hS : va_S A s.heap H [] := by rw [hH]; exact va_S.rf
  clear hH
  obtain ⟨locs, hlo⟩ : ∃ z : List Loc, z = [] := ⟨_, rfl⟩
  refine x_herl hlo ?_
  have hS : va_S A s.heap H locs := by rw [hlo]; exact hS
  clear hlo
  unfold f_X4_takeMore at hf
  refine lv_aload_n hx hb dX4_takeMore_0 rfl (lv_at hl 0 rfl) ?_
  refine va_get (D := (dC, dI)) (ci := 4) (v := .int v4_8) (C := RX4) (T := TX4) (N := 9) hx hb hts i_X4_takeMore_X4 hown hK hP 0 rfl rfl 8 (by decide) k_1 (fun _ h9 => h9) rfl dX4_takeMore_1 ?_
  refine lv_iconst (v := 1) hx hb dX4_takeMore_4 (by decide) ?_
  refine lv_isub hx hb dX4_takeMore_5 ?_
  refine lv_istore_n (lv' := [(2, .int (v4_8 - (1 : Int32))), (0, .ref o4), (1, .int p1)]) hx hb dX4_takeMore_6 rfl hl (by decide) rfl (fun ls hl => ?_)
  refine lv_aload_n hx hb dX4_takeMore_7 rfl (lv_at hl 1 rfl) ?_
  refine va_get (D := (dC, dI)) (ci := 4) (v := .ref a4_6) (C := RX4) (T := TX4) (N := 9) hx hb hts i_X4_takeMore_X4 hown hK hP 0 rfl rfl 6 (by decide) k_2 (fun _ h9 => h9) rfl dX4_takeMore_8 ?_
  refine lv_iload_n hx hb dX4_takeMore_11 rfl (lv_at hl 0 rfl) ?_
  refine lv_bipush (v := 20) hx hb dX4_takeMore_12 (by decide) ?_
  refine lv_imul hx hb dX4_takeMore_14 ?_
  refine lv_aload_n hx hb dX4_takeMore_15 rfl (lv_at hl 1 rfl) ?_
  refine va_get (D := (dC, dI)) (ci := 4) (v := .ref a4_7) (C := RX4) (T := TX4) (N := 9) hx hb hts i_X4_takeMore_X4 hown hK hP 0 rfl rfl 7 (by decide) k_3 (fun _ h9 => h9) rfl dX4_takeMore_16 ?_
  refine lv_iload_n hx hb dX4_takeMore_19 rfl (lv_at hl 0 rfl) ?_
  obtain ⟨g_1, hf⟩ := x_gu hf
  refine va_iald hx hb hK hP 2 0 rfl rfl (x_gdin g_1) dX4_takeMore_20 ?_
  refine lv_iadd hx hb dX4_takeMore_21 ?_
  refine lv_iload_n hx hb dX4_takeMore_22 rfl (lv_at hl 2 rfl) ?_
  obtain ⟨g_2, hf⟩ := x_gu hf
  refine va_iast hx hb hK hP hD hS 1 0 rfl rfl (x_gdin g_2) dX4_takeMore_23 (fun H locs hP hD hS => ?_)
  have hP : va_P (dC, dI) vwCl [(o4, .inr (4, [.ref a4_0, .ref a4_1, .int v4_2, .ref a4_3, .ref a4_4, .ref a4_5, .ref a4_6, .ref a4_7, .int v4_8])), (a4_6, .inl (cyI, 2000, .inl (upd g4_6 (Int32.toNatClampNeg (((v4_8 - (1 : Int32)) * (20 : Int32)) + (g4_7 (Int32.toNatClampNeg (v4_8 - (1 : Int32)))))) p1))), (a4_7, .inl (cyI, 100, .inl g4_7))] H := hP
  have hD : va_D A [(o4, .inr (4, [.ref a4_0, .ref a4_1, .int v4_2, .ref a4_3, .ref a4_4, .ref a4_5, .ref a4_6, .ref a4_7, .int v4_8])), (a4_6, .inl (cyI, 2000, .inl (upd g4_6 (Int32.toNatClampNeg (((v4_8 - (1 : Int32)) * (20 : Int32)) + (g4_7 (Int32.toNatClampNeg (v4_8 - (1 : Int32)))))) p1))), (a4_7, .inl (cyI, 100, .inl g4_7))] := hD
  refine lv_aload_n hx hb dX4_takeMore_24 rfl (lv_at hl 1 rfl) ?_
  refine va_get (D := (dC, dI)) (ci := 4) (v := .ref a4_7) (C := RX4) (T := TX4) (N := 9) hx hb hts i_X4_takeMore_X4 hown hK hP 0 rfl rfl 7 (by decide) k_3 (fun _ h9 => h9) rfl dX4_takeMore_25 ?_
  refine lv_iload_n hx hb dX4_takeMore_28 rfl (lv_at hl 0 rfl) ?_
  refine lv_dup2_11 hx hb dX4_takeMore_29 rfl rfl ?_
  obtain ⟨g_3, hf⟩ := x_gu hf
  refine va_iald hx hb hK hP 2 0 rfl rfl (x_gdin g_3) dX4_takeMore_30 ?_
  refine lv_iconst (v := 1) hx hb dX4_takeMore_31 (by decide) ?_
  refine lv_iadd hx hb dX4_takeMore_32 ?_
  obtain ⟨g_4, hf⟩ := x_gu hf
  refine va_iast hx hb hK hP hD hS 2 0 rfl rfl (x_gdin g_4) dX4_takeMore_33 (fun H locs hP hD hS => ?_)
  have hP : va_P (dC, dI) vwCl [(o4, .inr (4, [.ref a4_0, .ref a4_1, .int v4_2, .ref a4_3, .ref a4_4, .ref a4_5, .ref a4_6, .ref a4_7, .int v4_8])), (a4_6, .inl (cyI, 2000, .inl (upd g4_6 (Int32.toNatClampNeg (((v4_8 - (1 : Int32)) * (20 : Int32)) + (g4_7 (Int32.toNatClampNeg (v4_8 - (1 : Int32)))))) p1))), (a4_7, .inl (cyI, 100, .inl (upd g4_7 (Int32.toNatClampNeg (v4_8 - (1 : Int32))) ((g4_7 (Int32.toNatClampNeg (v4_8 - (1 : Int32)))) + (1 : Int32)))))] H := hP
  have hD : va_D A [(o4, .inr (4, [.ref a4_0, .ref a4_1, .int v4_2, .ref a4_3, .ref a4_4, .ref a4_5, .ref a4_6, .ref a4_7, .int v4_8])), (a4_6, .inl (cyI, 2000, .inl (upd g4_6 (Int32.toNatClampNeg (((v4_8 - (1 : Int32)) * (20 : Int32)) + (g4_7 (Int32.toNatClampNeg (v4_8 - (1 : Int32)))))) p1))), (a4_7, .inl (cyI, 100, .inl (upd g4_7 (Int32.toNatClampNeg (v4_8 - (1 : Int32))) ((g4_7 (Int32.toNatClampNeg (v4_8 - (1 : Int32)))) + (1 : Int32)))))] := hD
  refine lv_aload_n hx hb dX4_takeMore_34 rfl (lv_at hl 1 rfl) ?_
  refine va_get (D := (dC, dI)) (ci := 4) (v := .ref a4_7) (C := RX4) (T := TX4) (N := 9) hx hb hts i_X4_takeMore_X4 hown hK hP 0 rfl rfl 7 (by decide) k_3 (fun _ h9 => h9) rfl dX4_takeMore_35 ?_
  refine lv_iload_n hx hb dX4_takeMore_38 rfl (lv_at hl 0 rfl) ?_
  obtain ⟨g_5, hf⟩ := x_gu hf
  refine va_iald hx hb hK hP 2 0 rfl rfl (x_gdin g_5) dX4_takeMore_39 ?_
  obtain rfl := Option.some.inj hf
  have hP9 := hP.sub (ws' := [(o4, .inr (4, [.ref a4_0, .ref a4_1, .int v4_2, .ref a4_3, .ref a4_4, .ref a4_5, .ref a4_6, .ref a4_7, .int v4_8])), (a4_6, .inl (cyI, 2000, .inl (upd g4_6 (Int32.toNatClampNeg (((v4_8 - (1 : Int32)) * (20 : Int32)) + (g4_7 (Int32.toNatClampNeg (v4_8 - (1 : Int32)))))) p1))), (a4_7, .inl (cyI, 100, .inl (upd g4_7 (Int32.toNatClampNeg (v4_8 - (1 : Int32))) ((g4_7 (Int32.toNatClampNeg (v4_8 - (1 : Int32)))) + (1 : Int32)))))]) [0, 1, 2] rfl
  have hD9 := hD.sub (ws' := [(o4, .inr (4, [.ref a4_0, .ref a4_1, .int v4_2, .ref a4_3, .ref a4_4, .ref a4_5, .ref a4_6, .ref a4_7, .int v4_8])), (a4_6, .inl (cyI, 2000, .inl (upd g4_6 (Int32.toNatClampNeg (((v4_8 - (1 : Int32)) * (20 : Int32)) + (g4_7 (Int32.toNatClampNeg (v4_8 - (1 : Int32)))))) p1))), (a4_7, .inl (cyI, 100, .inl (upd g4_7 (Int32.toNatClampNeg (v4_8 - (1 : Int32))) ((g4_7 (Int32.toNatClampNeg (v4_8 - (1 : Int32)))) + (1 : Int32)))))]) [0, 1, 2] (by decide) rfl
  exact W.iret hx hb hr (fun t ht hW => ⟨⟨_, (), rfl, rfl, by rw [ht]; exact hP9, va_K.moved hW.alike hK, hD9⟩, hS.F ht⟩) hS.2.2 dX4_takeMore_40

def f_X4_takenOf (g4_6 : Nat → Int32) (p1 : Int32) (p2 : Int32) : Option (Int32) := if x_gd ((p1 * (20 : Int32)) + p2) 2000 = true then some (g4_6 (Int32.toNatClampNeg ((p1 * (20 : Int32)) + p2))) else none
theorem i_X4_takenOf_X4 : ∀ w ∈ wsX40, w ∈ wsX4_takenOf := fun _ h => List.mem_cons_of_mem _ (List.mem_append_right _ h)
set_option maxHeartbeats 4000000 in
set_option maxRecDepth 100000 in
theorem c_X4_takenOf (l : Launch) (dC : Nat → ClassId) (dI : Nat → Nat → Nat) (cyI cyZ cyJ : ClassId) (sz : Nat) (o4 : Nat) (a4_0 : Nat) (a4_1 : Nat) (v4_2 : Int32) (a4_3 : Nat) (a4_4 : Nat) (a4_5 : Nat) (a4_6 : Nat) (a4_7 : Nat) (v4_8 : Int32) (g4_6 : Nat → Int32) (p1 : Int32) (p2 : Int32) (R : Int32) (hf : f_X4_takenOf g4_6 p1 p2 = some R) : Met l yX4_takenOf wsX4_takenOf ({ frames := 0, cells := 0, slots := 0, locals := 0 }) (va_Pc [.ref o4, .int p1, .int p2] (x_Pre (dC, dI) (x_T cyI cyZ cyJ) [(o4, .inr (4, [.ref a4_0, .ref a4_1, .int v4_2, .ref a4_3, .ref a4_4, .ref a4_5, .ref a4_6, .ref a4_7, .int v4_8])), (a4_6, .inl (cyI, 2000, .inl g4_6))] sz)) (va_Qi (fun (r : Int32) (_ : Unit) => r = R) (fun _ _ => True) (x_new sz)) 0 0 (x_new sz) := by
  refine Met.ofW (cc := cX4_takenOf) (maxL := 3) (ret := (some .int)) (by decide) rfl ?_
  intro p e s m args below meth c s₁ B hml hv
  obtain ⟨rfl, hsz, hP, hK, hN⟩ := hv
  have hx := B.exec
  have hb := B.bytes
  have hr := B.returns
  have hts := atoms_spec (ws := wsX4_takenOf) B.pre
  have hown : s.vm.findClass RX4 = some m.cls := findClass_of_methodNamed B.named
  have k_1 := hts (.fieldLink RX4 28 "FlowJudge$Members" "taken" "[I") (by decide +kernel)
  subst hsz
  have hA : ∀ q : Nat, s.heap.size ≤ q → x_new s.heap.size q := fun _ h => h
  have hS : va_S (x_new s.heap.size) s.heap s.heap [] := va_S.rf
  have hP : va_P (dC, dI) vwCl [(o4, .inr (4, [.ref a4_0, .ref a4_1, .int v4_2, .ref a4_3, .ref a4_4, .ref a4_5, .ref a4_6, .ref a4_7, .int v4_8])), (a4_6, .inl (cyI, 2000, .inl g4_6))] s.heap := hP
  have hl := lv_entry ([.ref o4, .int p1, .int p2]) (n := 3) (Nat.le_of_ble_eq_true rfl)
  rw [lg_entry_eq]
  generalize (lg_sl ([.ref o4, .int p1, .int p2]) ++ List.replicate (3 - (lg_sl ([.ref o4, .int p1, .int p2])).length) Slot.unset).toArray = ls at hl ⊢
  have hl : lv_has ls 3 [(0, .ref o4), (1, .int p1), (2, .int p2)] := hl
  obtain ⟨H, hH⟩ : ∃ z, z = s.heap := ⟨_, rfl⟩
  refine x_here hH ?_
  have hP : va_P (dC, dI) vwCl [(o4, .inr (4, [.ref a4_0, .ref a4_1, .int v4_2, .ref a4_3, .ref a4_4, .ref a4_5, .ref a4_6, .ref a4_7, .int v4_8])), (a4_6, .inl (cyI, 2000, .inl g4_6))] H := by rw [hH]; exact hP
  have hS : va_S (x_new s.heap.size) s.heap H [] := by rw [hH]; exact va_S.rf
  clear hH
  obtain ⟨locs, hlo⟩ : ∃ z : List Loc, z = [] := ⟨_, rfl⟩
  refine x_herl hlo ?_
  have hS : va_S (x_new s.heap.size) s.heap H locs := by rw [hlo]; exact hS
  clear hlo
  unfold f_X4_takenOf at hf
  refine lv_aload_n hx hb dX4_takenOf_0 rfl (lv_at hl 0 rfl) ?_
  refine va_get (D := (dC, dI)) (ci := 4) (v := .ref a4_6) (C := RX4) (T := TX4) (N := 9) hx hb hts i_X4_takenOf_X4 hown hK hP 0 rfl rfl 6 (by decide) k_1 (fun _ h9 => h9) rfl dX4_takenOf_1 ?_
  refine lv_iload_n hx hb dX4_takenOf_4 rfl (lv_at hl 1 rfl) ?_
  refine lv_bipush (v := 20) hx hb dX4_takenOf_5 (by decide) ?_
  refine lv_imul hx hb dX4_takenOf_7 ?_
  refine lv_iload_n hx hb dX4_takenOf_8 rfl (lv_at hl 2 rfl) ?_
  refine lv_iadd hx hb dX4_takenOf_9 ?_
  obtain ⟨g_1, hf⟩ := x_gu hf
  refine va_iald hx hb hK hP 1 0 rfl rfl (x_gdin g_1) dX4_takenOf_10 ?_
  obtain rfl := Option.some.inj hf
  exact W.iret hx hb hr (fun t ht hW => ⟨⟨_, (), rfl, rfl, trivial⟩, hS.F ht⟩) hS.2.2 dX4_takenOf_11

def f_X0_isOpcode (p0 : Int32) : Option (Int32) := if p0 < (0 : Int32) then if p0 < (20 : Int32) then if p0 < (46 : Int32) then if p0 < (79 : Int32) then if p0 < (197 : Int32) then some 0 else if (199 : Int32) < p0 then some 0 else some 1 else if p0 ≤ (195 : Int32) then some 1 else if p0 < (197 : Int32) then some 0 else if (199 : Int32) < p0 then some 0 else some 1 else if p0 ≤ (58 : Int32) then some 1 else if p0 < (79 : Int32) then if p0 < (197 : Int32) then some 0 else if (199 : Int32) < p0 then some 0 else some 1 else if p0 ≤ (195 : Int32) then some 1 else if p0 < (197 : Int32) then some 0 else if (199 : Int32) < p0 then some 0 else some 1 else if p0 ≤ (25 : Int32) then some 1 else if p0 < (46 : Int32) then if p0 < (79 : Int32) then if p0 < (197 : Int32) then some 0 else if (199 : Int32) < p0 then some 0 else some 1 else if p0 ≤ (195 : Int32) then some 1 else if p0 < (197 : Int32) then some 0 else if (199 : Int32) < p0 then some 0 else some 1 else if p0 ≤ (58 : Int32) then some 1 else if p0 < (79 : Int32) then if p0 < (197 : Int32) then some 0 else if (199 : Int32) < p0 then some 0 else some 1 else if p0 ≤ (195 : Int32) then some 1 else if p0 < (197 : Int32) then some 0 else if (199 : Int32) < p0 then some 0 else some 1 else if p0 ≤ (18 : Int32) then some 1 else if p0 < (20 : Int32) then if p0 < (46 : Int32) then if p0 < (79 : Int32) then if p0 < (197 : Int32) then some 0 else if (199 : Int32) < p0 then some 0 else some 1 else if p0 ≤ (195 : Int32) then some 1 else if p0 < (197 : Int32) then some 0 else if (199 : Int32) < p0 then some 0 else some 1 else if p0 ≤ (58 : Int32) then some 1 else if p0 < (79 : Int32) then if p0 < (197 : Int32) then some 0 else if (199 : Int32) < p0 then some 0 else some 1 else if p0 ≤ (195 : Int32) then some 1 else if p0 < (197 : Int32) then some 0 else if (199 : Int32) < p0 then some 0 else some 1 else if p0 ≤ (25 : Int32) then some 1 else if p0 < (46 : Int32) then if p0 < (79 : Int32) then if p0 < (197 : Int32) then some 0 else if (199 : Int32) < p0 then some 0 else some 1 else if p0 ≤ (195 : Int32) then some 1 else if p0 < (197 : Int32) then some 0 else if (199 : Int32) < p0 then some 0 else some 1 else if p0 ≤ (58 : Int32) then some 1 else if p0 < (79 : Int32) then if p0 < (197 : Int32) then some 0 else if (199 : Int32) < p0 then some 0 else some 1 else if p0 ≤ (195 : Int32) then some 1 else if p0 < (197 : Int32) then some 0 else if (199 : Int32) < p0 then some 0 else some 1
set_option maxHeartbeats 4000000 in
set_option maxRecDepth 100000 in
theorem c_X0_isOpcode (l : Launch) (dC : Nat → ClassId) (dI : Nat → Nat → Nat) (cyI cyZ cyJ : ClassId) (sz : Nat) (p0 : Int32) (R : Int32) (hf : f_X0_isOpcode p0 = some R) : Met l yX0_isOpcode wsX0_isOpcode ({ frames := 0, cells := 0, slots := 0, locals := 0 }) (va_Pc [.int p0] (x_Pre (dC, dI) (x_T cyI cyZ cyJ) [] sz)) (va_Qi (fun (r : Int32) (_ : Unit) => r = R ∧ x_nb r) (fun _ _ => True) (x_new sz)) 0 0 (x_new sz) := by
  refine Met.ofW (cc := cX0_isOpcode) (maxL := 1) (ret := (some .boolean)) (by decide) rfl ?_
  intro p e s m args below meth c s₁ B hml hv
  obtain ⟨rfl, hsz, hP, hK, hN⟩ := hv
  have hx := B.exec
  have hb := B.bytes
  have hr := B.returns
  have hts := atoms_spec (ws := wsX0_isOpcode) B.pre
  have hown : s.vm.findClass RX0 = some m.cls := findClass_of_methodNamed B.named
  subst hsz
  have hA : ∀ q : Nat, s.heap.size ≤ q → x_new s.heap.size q := fun _ h => h
  have hS : va_S (x_new s.heap.size) s.heap s.heap [] := va_S.rf
  have hP : va_P (dC, dI) vwCl [] s.heap := hP
  have hl := lv_entry ([.int p0]) (n := 1) (Nat.le_of_ble_eq_true rfl)
  rw [lg_entry_eq]
  generalize (lg_sl ([.int p0]) ++ List.replicate (1 - (lg_sl ([.int p0])).length) Slot.unset).toArray = ls at hl ⊢
  have hl : lv_has ls 1 [(0, .int p0)] := hl
  obtain ⟨H, hH⟩ : ∃ z, z = s.heap := ⟨_, rfl⟩
  refine x_here hH ?_
  have hP : va_P (dC, dI) vwCl [] H := by rw [hH]; exact hP
  have hS : va_S (x_new s.heap.size) s.heap H [] := by rw [hH]; exact va_S.rf
  clear hH
  obtain ⟨locs, hlo⟩ : ∃ z : List Loc, z = [] := ⟨_, rfl⟩
  refine x_herl hlo ?_
  have hS : va_S (x_new s.heap.size) s.heap H locs := by rw [hlo]; exact hS
  clear hlo
  unfold f_X0_isOpcode at hf
  refine lv_iload_n hx hb dX0_isOpcode_0 rfl (lv_at hl 0 rfl) ?_
  refine lv_if_lt (tgt := 10) hx hb dX0_isOpcode_1 (by decide) (fun c_1 => ?_) (fun c_1 => ?_)
  · replace hf := x_ip c_1 hf
    refine lv_iload_n hx hb dX0_isOpcode_10 rfl (lv_at hl 0 rfl) ?_
    refine lv_bipush (v := 20) hx hb dX0_isOpcode_11 (by decide) ?_
    refine lv_icmp_lt (tgt := 22) hx hb dX0_isOpcode_13 (by decide) (fun c_2 => ?_) (fun c_2 => ?_)
    · replace hf := x_ip c_2 hf
      refine lv_iload_n hx hb dX0_isOpcode_22 rfl (lv_at hl 0 rfl) ?_
      refine lv_bipush (v := 46) hx hb dX0_isOpcode_23 (by decide) ?_
      refine lv_icmp_lt (tgt := 34) hx hb dX0_isOpcode_25 (by decide) (fun c_3 => ?_) (fun c_3 => ?_)
      · replace hf := x_ip c_3 hf
        refine lv_iload_n hx hb dX0_isOpcode_34 rfl (lv_at hl 0 rfl) ?_
        refine lv_bipush (v := 79) hx hb dX0_isOpcode_35 (by decide) ?_
        refine lv_icmp_lt (tgt := 47) hx hb dX0_isOpcode_37 (by decide) (fun c_4 => ?_) (fun c_4 => ?_)
        · replace hf := x_ip c_4 hf
          refine lv_iload_n hx hb dX0_isOpcode_47 rfl (lv_at hl 0 rfl) ?_
          refine lv_sipush (v := 197) hx hb dX0_isOpcode_48 (by decide) ?_
          refine lv_icmp_lt (tgt := 65) hx hb dX0_isOpcode_51 (by decide) (fun c_5 => ?_) (fun c_5 => ?_)
          · replace hf := x_ip c_5 hf
            refine lv_iconst (v := 0) hx hb dX0_isOpcode_65 (by decide) ?_
            obtain rfl := Option.some.inj hf
            exact W.zret (ty := .boolean) hx hb hr rfl (fun t ht hW => ⟨⟨_, (), rfl, ⟨rfl, rfl⟩, trivial⟩, hS.F ht⟩) hS.2.2 dX0_isOpcode_66
          · replace hf := x_in c_5 hf
            refine lv_iload_n hx hb dX0_isOpcode_54 rfl (lv_at hl 0 rfl) ?_
            refine lv_sipush (v := 199) hx hb dX0_isOpcode_55 (by decide) ?_
            refine lv_icmp_gt (tgt := 65) hx hb dX0_isOpcode_58 (by decide) (fun c_6 => ?_) (fun c_6 => ?_)
            · replace hf := x_ip c_6 hf
              refine lv_iconst (v := 0) hx hb dX0_isOpcode_65 (by decide) ?_
              obtain rfl := Option.some.inj hf
              exact W.zret (ty := .boolean) hx hb hr rfl (fun t ht hW => ⟨⟨_, (), rfl, ⟨rfl, rfl⟩, trivial⟩, hS.F ht⟩) hS.2.2 dX0_isOpcode_66
            · replace hf := x_in c_6 hf
              refine lv_iconst (v := 1) hx hb dX0_isOpcode_61 (by decide) ?_
              refine lv_goto (tgt := 66) hx hb dX0_isOpcode_62 (by decide) ?_
              obtain rfl := Option.some.inj hf
              exact W.zret (ty := .boolean) hx hb hr rfl (fun t ht hW => ⟨⟨_, (), rfl, ⟨rfl, rfl⟩, trivial⟩, hS.F ht⟩) hS.2.2 dX0_isOpcode_66
        · replace hf := x_in c_4 hf
          refine lv_iload_n hx hb dX0_isOpcode_40 rfl (lv_at hl 0 rfl) ?_
          refine lv_sipush (v := 195) hx hb dX0_isOpcode_41 (by decide) ?_
          refine lv_icmp_le (tgt := 61) hx hb dX0_isOpcode_44 (by decide) (fun c_7 => ?_) (fun c_7 => ?_)
          · replace hf := x_ip c_7 hf
            refine lv_iconst (v := 1) hx hb dX0_isOpcode_61 (by decide) ?_
            refine lv_goto (tgt := 66) hx hb dX0_isOpcode_62 (by decide) ?_
            obtain rfl := Option.some.inj hf
            exact W.zret (ty := .boolean) hx hb hr rfl (fun t ht hW => ⟨⟨_, (), rfl, ⟨rfl, rfl⟩, trivial⟩, hS.F ht⟩) hS.2.2 dX0_isOpcode_66
          · replace hf := x_in c_7 hf
            refine lv_iload_n hx hb dX0_isOpcode_47 rfl (lv_at hl 0 rfl) ?_
            refine lv_sipush (v := 197) hx hb dX0_isOpcode_48 (by decide) ?_
            refine lv_icmp_lt (tgt := 65) hx hb dX0_isOpcode_51 (by decide) (fun c_8 => ?_) (fun c_8 => ?_)
            · replace hf := x_ip c_8 hf
              refine lv_iconst (v := 0) hx hb dX0_isOpcode_65 (by decide) ?_
              obtain rfl := Option.some.inj hf
              exact W.zret (ty := .boolean) hx hb hr rfl (fun t ht hW => ⟨⟨_, (), rfl, ⟨rfl, rfl⟩, trivial⟩, hS.F ht⟩) hS.2.2 dX0_isOpcode_66
            · replace hf := x_in c_8 hf
              refine lv_iload_n hx hb dX0_isOpcode_54 rfl (lv_at hl 0 rfl) ?_
              refine lv_sipush (v := 199) hx hb dX0_isOpcode_55 (by decide) ?_
              refine lv_icmp_gt (tgt := 65) hx hb dX0_isOpcode_58 (by decide) (fun c_9 => ?_) (fun c_9 => ?_)
              · replace hf := x_ip c_9 hf
                refine lv_iconst (v := 0) hx hb dX0_isOpcode_65 (by decide) ?_
                obtain rfl := Option.some.inj hf
                exact W.zret (ty := .boolean) hx hb hr rfl (fun t ht hW => ⟨⟨_, (), rfl, ⟨rfl, rfl⟩, trivial⟩, hS.F ht⟩) hS.2.2 dX0_isOpcode_66
              · replace hf := x_in c_9 hf
                refine lv_iconst (v := 1) hx hb dX0_isOpcode_61 (by decide) ?_
                refine lv_goto (tgt := 66) hx hb dX0_isOpcode_62 (by decide) ?_
                obtain rfl := Option.some.inj hf
                exact W.zret (ty := .boolean) hx hb hr rfl (fun t ht hW => ⟨⟨_, (), rfl, ⟨rfl, rfl⟩, trivial⟩, hS.F ht⟩) hS.2.2 dX0_isOpcode_66
      · replace hf := x_in c_3 hf
        refine lv_iload_n hx hb dX0_isOpcode_28 rfl (lv_at hl 0 rfl) ?_
        refine lv_bipush (v := 58) hx hb dX0_isOpcode_29 (by decide) ?_
        refine lv_icmp_le (tgt := 61) hx hb dX0_isOpcode_31 (by decide) (fun c_10 => ?_) (fun c_10 => ?_)
        · replace hf := x_ip c_10 hf
          refine lv_iconst (v := 1) hx hb dX0_isOpcode_61 (by decide) ?_
          refine lv_goto (tgt := 66) hx hb dX0_isOpcode_62 (by decide) ?_
          obtain rfl := Option.some.inj hf
          exact W.zret (ty := .boolean) hx hb hr rfl (fun t ht hW => ⟨⟨_, (), rfl, ⟨rfl, rfl⟩, trivial⟩, hS.F ht⟩) hS.2.2 dX0_isOpcode_66
        · replace hf := x_in c_10 hf
          refine lv_iload_n hx hb dX0_isOpcode_34 rfl (lv_at hl 0 rfl) ?_
          refine lv_bipush (v := 79) hx hb dX0_isOpcode_35 (by decide) ?_
          refine lv_icmp_lt (tgt := 47) hx hb dX0_isOpcode_37 (by decide) (fun c_11 => ?_) (fun c_11 => ?_)
          · replace hf := x_ip c_11 hf
            refine lv_iload_n hx hb dX0_isOpcode_47 rfl (lv_at hl 0 rfl) ?_
            refine lv_sipush (v := 197) hx hb dX0_isOpcode_48 (by decide) ?_
            refine lv_icmp_lt (tgt := 65) hx hb dX0_isOpcode_51 (by decide) (fun c_12 => ?_) (fun c_12 => ?_)
            · replace hf := x_ip c_12 hf
              refine lv_iconst (v := 0) hx hb dX0_isOpcode_65 (by decide) ?_
              obtain rfl := Option.some.inj hf
              exact W.zret (ty := .boolean) hx hb hr rfl (fun t ht hW => ⟨⟨_, (), rfl, ⟨rfl, rfl⟩, trivial⟩, hS.F ht⟩) hS.2.2 dX0_isOpcode_66
            · replace hf := x_in c_12 hf
              refine lv_iload_n hx hb dX0_isOpcode_54 rfl (lv_at hl 0 rfl) ?_
              refine lv_sipush (v := 199) hx hb dX0_isOpcode_55 (by decide) ?_
              refine lv_icmp_gt (tgt := 65) hx hb dX0_isOpcode_58 (by decide) (fun c_13 => ?_) (fun c_13 => ?_)
              · replace hf := x_ip c_13 hf
                refine lv_iconst (v := 0) hx hb dX0_isOpcode_65 (by decide) ?_
                obtain rfl := Option.some.inj hf
                exact W.zret (ty := .boolean) hx hb hr rfl (fun t ht hW => ⟨⟨_, (), rfl, ⟨rfl, rfl⟩, trivial⟩, hS.F ht⟩) hS.2.2 dX0_isOpcode_66
              · replace hf := x_in c_13 hf
                refine lv_iconst (v := 1) hx hb dX0_isOpcode_61 (by decide) ?_
                refine lv_goto (tgt := 66) hx hb dX0_isOpcode_62 (by decide) ?_
                obtain rfl := Option.some.inj hf
                exact W.zret (ty := .boolean) hx hb hr rfl (fun t ht hW => ⟨⟨_, (), rfl, ⟨rfl, rfl⟩, trivial⟩, hS.F ht⟩) hS.2.2 dX0_isOpcode_66
          · replace hf := x_in c_11 hf
            refine lv_iload_n hx hb dX0_isOpcode_40 rfl (lv_at hl 0 rfl) ?_
            refine lv_sipush (v := 195) hx hb dX0_isOpcode_41 (by decide) ?_
            refine lv_icmp_le (tgt := 61) hx hb dX0_isOpcode_44 (by decide) (fun c_14 => ?_) (fun c_14 => ?_)
            · replace hf := x_ip c_14 hf
              refine lv_iconst (v := 1) hx hb dX0_isOpcode_61 (by decide) ?_
              refine lv_goto (tgt := 66) hx hb dX0_isOpcode_62 (by decide) ?_
              obtain rfl := Option.some.inj hf
              exact W.zret (ty := .boolean) hx hb hr rfl (fun t ht hW => ⟨⟨_, (), rfl, ⟨rfl, rfl⟩, trivial⟩, hS.F ht⟩) hS.2.2 dX0_isOpcode_66
            · replace hf := x_in c_14 hf
              refine lv_iload_n hx hb dX0_isOpcode_47 rfl (lv_at hl 0 rfl) ?_
              refine lv_sipush (v := 197) hx hb dX0_isOpcode_48 (by decide) ?_
              refine lv_icmp_lt (tgt := 65) hx hb dX0_isOpcode_51 (by decide) (fun c_15 => ?_) (fun c_15 => ?_)
              · replace hf := x_ip c_15 hf
                refine lv_iconst (v := 0) hx hb dX0_isOpcode_65 (by decide) ?_
                obtain rfl := Option.some.inj hf
                exact W.zret (ty := .boolean) hx hb hr rfl (fun t ht hW => ⟨⟨_, (), rfl, ⟨rfl, rfl⟩, trivial⟩, hS.F ht⟩) hS.2.2 dX0_isOpcode_66
              · replace hf := x_in c_15 hf
                refine lv_iload_n hx hb dX0_isOpcode_54 rfl (lv_at hl 0 rfl) ?_
                refine lv_sipush (v := 199) hx hb dX0_isOpcode_55 (by decide) ?_
                refine lv_icmp_gt (tgt := 65) hx hb dX0_isOpcode_58 (by decide) (fun c_16 => ?_) (fun c_16 => ?_)
                · replace hf := x_ip c_16 hf
                  refine lv_iconst (v := 0) hx hb dX0_isOpcode_65 (by decide) ?_
                  obtain rfl := Option.some.inj hf
                  exact W.zret (ty := .boolean) hx hb hr rfl (fun t ht hW => ⟨⟨_, (), rfl, ⟨rfl, rfl⟩, trivial⟩, hS.F ht⟩) hS.2.2 dX0_isOpcode_66
                · replace hf := x_in c_16 hf
                  refine lv_iconst (v := 1) hx hb dX0_isOpcode_61 (by decide) ?_
                  refine lv_goto (tgt := 66) hx hb dX0_isOpcode_62 (by decide) ?_
                  obtain rfl := Option.some.inj hf
                  exact W.zret (ty := .boolean) hx hb hr rfl (fun t ht hW => ⟨⟨_, (), rfl, ⟨rfl, rfl⟩, trivial⟩, hS.F ht⟩) hS.2.2 dX0_isOpcode_66
    · replace hf := x_in c_2 hf
      refine lv_iload_n hx hb dX0_isOpcode_16 rfl (lv_at hl 0 rfl) ?_
      refine lv_bipush (v := 25) hx hb dX0_isOpcode_17 (by decide) ?_
      refine lv_icmp_le (tgt := 61) hx hb dX0_isOpcode_19 (by decide) (fun c_17 => ?_) (fun c_17 => ?_)
      · replace hf := x_ip c_17 hf
        refine lv_iconst (v := 1) hx hb dX0_isOpcode_61 (by decide) ?_
        refine lv_goto (tgt := 66) hx hb dX0_isOpcode_62 (by decide) ?_
        obtain rfl := Option.some.inj hf
        exact W.zret (ty := .boolean) hx hb hr rfl (fun t ht hW => ⟨⟨_, (), rfl, ⟨rfl, rfl⟩, trivial⟩, hS.F ht⟩) hS.2.2 dX0_isOpcode_66
      · replace hf := x_in c_17 hf
        refine lv_iload_n hx hb dX0_isOpcode_22 rfl (lv_at hl 0 rfl) ?_
        refine lv_bipush (v := 46) hx hb dX0_isOpcode_23 (by decide) ?_
        refine lv_icmp_lt (tgt := 34) hx hb dX0_isOpcode_25 (by decide) (fun c_18 => ?_) (fun c_18 => ?_)
        · replace hf := x_ip c_18 hf
          refine lv_iload_n hx hb dX0_isOpcode_34 rfl (lv_at hl 0 rfl) ?_
          refine lv_bipush (v := 79) hx hb dX0_isOpcode_35 (by decide) ?_
          refine lv_icmp_lt (tgt := 47) hx hb dX0_isOpcode_37 (by decide) (fun c_19 => ?_) (fun c_19 => ?_)
          · replace hf := x_ip c_19 hf
            refine lv_iload_n hx hb dX0_isOpcode_47 rfl (lv_at hl 0 rfl) ?_
            refine lv_sipush (v := 197) hx hb dX0_isOpcode_48 (by decide) ?_
            refine lv_icmp_lt (tgt := 65) hx hb dX0_isOpcode_51 (by decide) (fun c_20 => ?_) (fun c_20 => ?_)
            · replace hf := x_ip c_20 hf
              refine lv_iconst (v := 0) hx hb dX0_isOpcode_65 (by decide) ?_
              obtain rfl := Option.some.inj hf
              exact W.zret (ty := .boolean) hx hb hr rfl (fun t ht hW => ⟨⟨_, (), rfl, ⟨rfl, rfl⟩, trivial⟩, hS.F ht⟩) hS.2.2 dX0_isOpcode_66
            · replace hf := x_in c_20 hf
              refine lv_iload_n hx hb dX0_isOpcode_54 rfl (lv_at hl 0 rfl) ?_
              refine lv_sipush (v := 199) hx hb dX0_isOpcode_55 (by decide) ?_
              refine lv_icmp_gt (tgt := 65) hx hb dX0_isOpcode_58 (by decide) (fun c_21 => ?_) (fun c_21 => ?_)
              · replace hf := x_ip c_21 hf
                refine lv_iconst (v := 0) hx hb dX0_isOpcode_65 (by decide) ?_
                obtain rfl := Option.some.inj hf
                exact W.zret (ty := .boolean) hx hb hr rfl (fun t ht hW => ⟨⟨_, (), rfl, ⟨rfl, rfl⟩, trivial⟩, hS.F ht⟩) hS.2.2 dX0_isOpcode_66
              · replace hf := x_in c_21 hf
                refine lv_iconst (v := 1) hx hb dX0_isOpcode_61 (by decide) ?_
                refine lv_goto (tgt := 66) hx hb dX0_isOpcode_62 (by decide) ?_
                obtain rfl := Option.some.inj hf
                exact W.zret (ty := .boolean) hx hb hr rfl (fun t ht hW => ⟨⟨_, (), rfl, ⟨rfl, rfl⟩, trivial⟩, hS.F ht⟩) hS.2.2 dX0_isOpcode_66
          · replace hf := x_in c_19 hf
            refine lv_iload_n hx hb dX0_isOpcode_40 rfl (lv_at hl 0 rfl) ?_
            refine lv_sipush (v := 195) hx hb dX0_isOpcode_41 (by decide) ?_
            refine lv_icmp_le (tgt := 61) hx hb dX0_isOpcode_44 (by decide) (fun c_22 => ?_) (fun c_22 => ?_)
            · replace hf := x_ip c_22 hf
              refine lv_iconst (v := 1) hx hb dX0_isOpcode_61 (by decide) ?_
              refine lv_goto (tgt := 66) hx hb dX0_isOpcode_62 (by decide) ?_
              obtain rfl := Option.some.inj hf
              exact W.zret (ty := .boolean) hx hb hr rfl (fun t ht hW => ⟨⟨_, (), rfl, ⟨rfl, rfl⟩, trivial⟩, hS.F ht⟩) hS.2.2 dX0_isOpcode_66
            · replace hf := x_in c_22 hf
              refine lv_iload_n hx hb dX0_isOpcode_47 rfl (lv_at hl 0 rfl) ?_
              refine lv_sipush (v := 197) hx hb dX0_isOpcode_48 (by decide) ?_
              refine lv_icmp_lt (tgt := 65) hx hb dX0_isOpcode_51 (by decide) (fun c_23 => ?_) (fun c_23 => ?_)
              · replace hf := x_ip c_23 hf
                refine lv_iconst (v := 0) hx hb dX0_isOpcode_65 (by decide) ?_
                obtain rfl := Option.some.inj hf
                exact W.zret (ty := .boolean) hx hb hr rfl (fun t ht hW => ⟨⟨_, (), rfl, ⟨rfl, rfl⟩, trivial⟩, hS.F ht⟩) hS.2.2 dX0_isOpcode_66
              · replace hf := x_in c_23 hf
                refine lv_iload_n hx hb dX0_isOpcode_54 rfl (lv_at hl 0 rfl) ?_
                refine lv_sipush (v := 199) hx hb dX0_isOpcode_55 (by decide) ?_
                refine lv_icmp_gt (tgt := 65) hx hb dX0_isOpcode_58 (by decide) (fun c_24 => ?_) (fun c_24 => ?_)
                · replace hf := x_ip c_24 hf
                  refine lv_iconst (v := 0) hx hb dX0_isOpcode_65 (by decide) ?_
                  obtain rfl := Option.some.inj hf
                  exact W.zret (ty := .boolean) hx hb hr rfl (fun t ht hW => ⟨⟨_, (), rfl, ⟨rfl, rfl⟩, trivial⟩, hS.F ht⟩) hS.2.2 dX0_isOpcode_66
                · replace hf := x_in c_24 hf
                  refine lv_iconst (v := 1) hx hb dX0_isOpcode_61 (by decide) ?_
                  refine lv_goto (tgt := 66) hx hb dX0_isOpcode_62 (by decide) ?_
                  obtain rfl := Option.some.inj hf
                  exact W.zret (ty := .boolean) hx hb hr rfl (fun t ht hW => ⟨⟨_, (), rfl, ⟨rfl, rfl⟩, trivial⟩, hS.F ht⟩) hS.2.2 dX0_isOpcode_66
        · replace hf := x_in c_18 hf
          refine lv_iload_n hx hb dX0_isOpcode_28 rfl (lv_at hl 0 rfl) ?_
          refine lv_bipush (v := 58) hx hb dX0_isOpcode_29 (by decide) ?_
          refine lv_icmp_le (tgt := 61) hx hb dX0_isOpcode_31 (by decide) (fun c_25 => ?_) (fun c_25 => ?_)
          · replace hf := x_ip c_25 hf
            refine lv_iconst (v := 1) hx hb dX0_isOpcode_61 (by decide) ?_
            refine lv_goto (tgt := 66) hx hb dX0_isOpcode_62 (by decide) ?_
            obtain rfl := Option.some.inj hf
            exact W.zret (ty := .boolean) hx hb hr rfl (fun t ht hW => ⟨⟨_, (), rfl, ⟨rfl, rfl⟩, trivial⟩, hS.F ht⟩) hS.2.2 dX0_isOpcode_66
          · replace hf := x_in c_25 hf
            refine lv_iload_n hx hb dX0_isOpcode_34 rfl (lv_at hl 0 rfl) ?_
            refine lv_bipush (v := 79) hx hb dX0_isOpcode_35 (by decide) ?_
            refine lv_icmp_lt (tgt := 47) hx hb dX0_isOpcode_37 (by decide) (fun c_26 => ?_) (fun c_26 => ?_)
            · replace hf := x_ip c_26 hf
              refine lv_iload_n hx hb dX0_isOpcode_47 rfl (lv_at hl 0 rfl) ?_
              refine lv_sipush (v := 197) hx hb dX0_isOpcode_48 (by decide) ?_
              refine lv_icmp_lt (tgt := 65) hx hb dX0_isOpcode_51 (by decide) (fun c_27 => ?_) (fun c_27 => ?_)
              · replace hf := x_ip c_27 hf
                refine lv_iconst (v := 0) hx hb dX0_isOpcode_65 (by decide) ?_
                obtain rfl := Option.some.inj hf
                exact W.zret (ty := .boolean) hx hb hr rfl (fun t ht hW => ⟨⟨_, (), rfl, ⟨rfl, rfl⟩, trivial⟩, hS.F ht⟩) hS.2.2 dX0_isOpcode_66
              · replace hf := x_in c_27 hf
                refine lv_iload_n hx hb dX0_isOpcode_54 rfl (lv_at hl 0 rfl) ?_
                refine lv_sipush (v := 199) hx hb dX0_isOpcode_55 (by decide) ?_
                refine lv_icmp_gt (tgt := 65) hx hb dX0_isOpcode_58 (by decide) (fun c_28 => ?_) (fun c_28 => ?_)
                · replace hf := x_ip c_28 hf
                  refine lv_iconst (v := 0) hx hb dX0_isOpcode_65 (by decide) ?_
                  obtain rfl := Option.some.inj hf
                  exact W.zret (ty := .boolean) hx hb hr rfl (fun t ht hW => ⟨⟨_, (), rfl, ⟨rfl, rfl⟩, trivial⟩, hS.F ht⟩) hS.2.2 dX0_isOpcode_66
                · replace hf := x_in c_28 hf
                  refine lv_iconst (v := 1) hx hb dX0_isOpcode_61 (by decide) ?_
                  refine lv_goto (tgt := 66) hx hb dX0_isOpcode_62 (by decide) ?_
                  obtain rfl := Option.some.inj hf
                  exact W.zret (ty := .boolean) hx hb hr rfl (fun t ht hW => ⟨⟨_, (), rfl, ⟨rfl, rfl⟩, trivial⟩, hS.F ht⟩) hS.2.2 dX0_isOpcode_66
            · replace hf := x_in c_26 hf
              refine lv_iload_n hx hb dX0_isOpcode_40 rfl (lv_at hl 0 rfl) ?_
              refine lv_sipush (v := 195) hx hb dX0_isOpcode_41 (by decide) ?_
              refine lv_icmp_le (tgt := 61) hx hb dX0_isOpcode_44 (by decide) (fun c_29 => ?_) (fun c_29 => ?_)
              · replace hf := x_ip c_29 hf
                refine lv_iconst (v := 1) hx hb dX0_isOpcode_61 (by decide) ?_
                refine lv_goto (tgt := 66) hx hb dX0_isOpcode_62 (by decide) ?_
                obtain rfl := Option.some.inj hf
                exact W.zret (ty := .boolean) hx hb hr rfl (fun t ht hW => ⟨⟨_, (), rfl, ⟨rfl, rfl⟩, trivial⟩, hS.F ht⟩) hS.2.2 dX0_isOpcode_66
              · replace hf := x_in c_29 hf
                refine lv_iload_n hx hb dX0_isOpcode_47 rfl (lv_at hl 0 rfl) ?_
                refine lv_sipush (v := 197) hx hb dX0_isOpcode_48 (by decide) ?_
                refine lv_icmp_lt (tgt := 65) hx hb dX0_isOpcode_51 (by decide) (fun c_30 => ?_) (fun c_30 => ?_)
                · replace hf := x_ip c_30 hf
                  refine lv_iconst (v := 0) hx hb dX0_isOpcode_65 (by decide) ?_
                  obtain rfl := Option.some.inj hf
                  exact W.zret (ty := .boolean) hx hb hr rfl (fun t ht hW => ⟨⟨_, (), rfl, ⟨rfl, rfl⟩, trivial⟩, hS.F ht⟩) hS.2.2 dX0_isOpcode_66
                · replace hf := x_in c_30 hf
                  refine lv_iload_n hx hb dX0_isOpcode_54 rfl (lv_at hl 0 rfl) ?_
                  refine lv_sipush (v := 199) hx hb dX0_isOpcode_55 (by decide) ?_
                  refine lv_icmp_gt (tgt := 65) hx hb dX0_isOpcode_58 (by decide) (fun c_31 => ?_) (fun c_31 => ?_)
                  · replace hf := x_ip c_31 hf
                    refine lv_iconst (v := 0) hx hb dX0_isOpcode_65 (by decide) ?_
                    obtain rfl := Option.some.inj hf
                    exact W.zret (ty := .boolean) hx hb hr rfl (fun t ht hW => ⟨⟨_, (), rfl, ⟨rfl, rfl⟩, trivial⟩, hS.F ht⟩) hS.2.2 dX0_isOpcode_66
                  · replace hf := x_in c_31 hf
                    refine lv_iconst (v := 1) hx hb dX0_isOpcode_61 (by decide) ?_
                    refine lv_goto (tgt := 66) hx hb dX0_isOpcode_62 (by decide) ?_
                    obtain rfl := Option.some.inj hf
                    exact W.zret (ty := .boolean) hx hb hr rfl (fun t ht hW => ⟨⟨_, (), rfl, ⟨rfl, rfl⟩, trivial⟩, hS.F ht⟩) hS.2.2 dX0_isOpcode_66
  · replace hf := x_in c_1 hf
    refine lv_iload_n hx hb dX0_isOpcode_4 rfl (lv_at hl 0 rfl) ?_
    refine lv_bipush (v := 18) hx hb dX0_isOpcode_5 (by decide) ?_
    refine lv_icmp_le (tgt := 61) hx hb dX0_isOpcode_7 (by decide) (fun c_32 => ?_) (fun c_32 => ?_)
    · replace hf := x_ip c_32 hf
      refine lv_iconst (v := 1) hx hb dX0_isOpcode_61 (by decide) ?_
      refine lv_goto (tgt := 66) hx hb dX0_isOpcode_62 (by decide) ?_
      obtain rfl := Option.some.inj hf
      exact W.zret (ty := .boolean) hx hb hr rfl (fun t ht hW => ⟨⟨_, (), rfl, ⟨rfl, rfl⟩, trivial⟩, hS.F ht⟩) hS.2.2 dX0_isOpcode_66
    · replace hf := x_in c_32 hf
      refine lv_iload_n hx hb dX0_isOpcode_10 rfl (lv_at hl 0 rfl) ?_
      refine lv_bipush (v := 20) hx hb dX0_isOpcode_11 (by decide) ?_
      refine lv_icmp_lt (tgt := 22) hx hb dX0_isOpcode_13 (by decide) (fun c_33 => ?_) (fun c_33 => ?_)
      · replace hf := x_ip c_33 hf
        refine lv_iload_n hx hb dX0_isOpcode_22 rfl (lv_at hl 0 rfl) ?_
        refine lv_bipush (v := 46) hx hb dX0_isOpcode_23 (by decide) ?_
        refine lv_icmp_lt (tgt := 34) hx hb dX0_isOpcode_25 (by decide) (fun c_34 => ?_) (fun c_34 => ?_)
        · replace hf := x_ip c_34 hf
          refine lv_iload_n hx hb dX0_isOpcode_34 rfl (lv_at hl 0 rfl) ?_
          refine lv_bipush (v := 79) hx hb dX0_isOpcode_35 (by decide) ?_
          refine lv_icmp_lt (tgt := 47) hx hb dX0_isOpcode_37 (by decide) (fun c_35 => ?_) (fun c_35 => ?_)
          · replace hf := x_ip c_35 hf
            refine lv_iload_n hx hb dX0_isOpcode_47 rfl (lv_at hl 0 rfl) ?_
            refine lv_sipush (v := 197) hx hb dX0_isOpcode_48 (by decide) ?_
            refine lv_icmp_lt (tgt := 65) hx hb dX0_isOpcode_51 (by decide) (fun c_36 => ?_) (fun c_36 => ?_)
            · replace hf := x_ip c_36 hf
              refine lv_iconst (v := 0) hx hb dX0_isOpcode_65 (by decide) ?_
              obtain rfl := Option.some.inj hf
              exact W.zret (ty := .boolean) hx hb hr rfl (fun t ht hW => ⟨⟨_, (), rfl, ⟨rfl, rfl⟩, trivial⟩, hS.F ht⟩) hS.2.2 dX0_isOpcode_66
            · replace hf := x_in c_36 hf
              refine lv_iload_n hx hb dX0_isOpcode_54 rfl (lv_at hl 0 rfl) ?_
              refine lv_sipush (v := 199) hx hb dX0_isOpcode_55 (by decide) ?_
              refine lv_icmp_gt (tgt := 65) hx hb dX0_isOpcode_58 (by decide) (fun c_37 => ?_) (fun c_37 => ?_)
              · replace hf := x_ip c_37 hf
                refine lv_iconst (v := 0) hx hb dX0_isOpcode_65 (by decide) ?_
                obtain rfl := Option.some.inj hf
                exact W.zret (ty := .boolean) hx hb hr rfl (fun t ht hW => ⟨⟨_, (), rfl, ⟨rfl, rfl⟩, trivial⟩, hS.F ht⟩) hS.2.2 dX0_isOpcode_66
              · replace hf := x_in c_37 hf
                refine lv_iconst (v := 1) hx hb dX0_isOpcode_61 (by decide) ?_
                refine lv_goto (tgt := 66) hx hb dX0_isOpcode_62 (by decide) ?_
                obtain rfl := Option.some.inj hf
                exact W.zret (ty := .boolean) hx hb hr rfl (fun t ht hW => ⟨⟨_, (), rfl, ⟨rfl, rfl⟩, trivial⟩, hS.F ht⟩) hS.2.2 dX0_isOpcode_66
          · replace hf := x_in c_35 hf
            refine lv_iload_n hx hb dX0_isOpcode_40 rfl (lv_at hl 0 rfl) ?_
            refine lv_sipush (v := 195) hx hb dX0_isOpcode_41 (by decide) ?_
            refine lv_icmp_le (tgt := 61) hx hb dX0_isOpcode_44 (by decide) (fun c_38 => ?_) (fun c_38 => ?_)
            · replace hf := x_ip c_38 hf
              refine lv_iconst (v := 1) hx hb dX0_isOpcode_61 (by decide) ?_
              refine lv_goto (tgt := 66) hx hb dX0_isOpcode_62 (by decide) ?_
              obtain rfl := Option.some.inj hf
              exact W.zret (ty := .boolean) hx hb hr rfl (fun t ht hW => ⟨⟨_, (), rfl, ⟨rfl, rfl⟩, trivial⟩, hS.F ht⟩) hS.2.2 dX0_isOpcode_66
            · replace hf := x_in c_38 hf
              refine lv_iload_n hx hb dX0_isOpcode_47 rfl (lv_at hl 0 rfl) ?_
              refine lv_sipush (v := 197) hx hb dX0_isOpcode_48 (by decide) ?_
              refine lv_icmp_lt (tgt := 65) hx hb dX0_isOpcode_51 (by decide) (fun c_39 => ?_) (fun c_39 => ?_)
              · replace hf := x_ip c_39 hf
                refine lv_iconst (v := 0) hx hb dX0_isOpcode_65 (by decide) ?_
                obtain rfl := Option.some.inj hf
                exact W.zret (ty := .boolean) hx hb hr rfl (fun t ht hW => ⟨⟨_, (), rfl, ⟨rfl, rfl⟩, trivial⟩, hS.F ht⟩) hS.2.2 dX0_isOpcode_66
              · replace hf := x_in c_39 hf
                refine lv_iload_n hx hb dX0_isOpcode_54 rfl (lv_at hl 0 rfl) ?_
                refine lv_sipush (v := 199) hx hb dX0_isOpcode_55 (by decide) ?_
                refine lv_icmp_gt (tgt := 65) hx hb dX0_isOpcode_58 (by decide) (fun c_40 => ?_) (fun c_40 => ?_)
                · replace hf := x_ip c_40 hf
                  refine lv_iconst (v := 0) hx hb dX0_isOpcode_65 (by decide) ?_
                  obtain rfl := Option.some.inj hf
                  exact W.zret (ty := .boolean) hx hb hr rfl (fun t ht hW => ⟨⟨_, (), rfl, ⟨rfl, rfl⟩, trivial⟩, hS.F ht⟩) hS.2.2 dX0_isOpcode_66
                · replace hf := x_in c_40 hf
                  refine lv_iconst (v := 1) hx hb dX0_isOpcode_61 (by decide) ?_
                  refine lv_goto (tgt := 66) hx hb dX0_isOpcode_62 (by decide) ?_
                  obtain rfl := Option.some.inj hf
                  exact W.zret (ty := .boolean) hx hb hr rfl (fun t ht hW => ⟨⟨_, (), rfl, ⟨rfl, rfl⟩, trivial⟩, hS.F ht⟩) hS.2.2 dX0_isOpcode_66
        · replace hf := x_in c_34 hf
          refine lv_iload_n hx hb dX0_isOpcode_28 rfl (lv_at hl 0 rfl) ?_
          refine lv_bipush (v := 58) hx hb dX0_isOpcode_29 (by decide) ?_
          refine lv_icmp_le (tgt := 61) hx hb dX0_isOpcode_31 (by decide) (fun c_41 => ?_) (fun c_41 => ?_)
          · replace hf := x_ip c_41 hf
            refine lv_iconst (v := 1) hx hb dX0_isOpcode_61 (by decide) ?_
            refine lv_goto (tgt := 66) hx hb dX0_isOpcode_62 (by decide) ?_
            obtain rfl := Option.some.inj hf
            exact W.zret (ty := .boolean) hx hb hr rfl (fun t ht hW => ⟨⟨_, (), rfl, ⟨rfl, rfl⟩, trivial⟩, hS.F ht⟩) hS.2.2 dX0_isOpcode_66
          · replace hf := x_in c_41 hf
            refine lv_iload_n hx hb dX0_isOpcode_34 rfl (lv_at hl 0 rfl) ?_
            refine lv_bipush (v := 79) hx hb dX0_isOpcode_35 (by decide) ?_
            refine lv_icmp_lt (tgt := 47) hx hb dX0_isOpcode_37 (by decide) (fun c_42 => ?_) (fun c_42 => ?_)
            · replace hf := x_ip c_42 hf
              refine lv_iload_n hx hb dX0_isOpcode_47 rfl (lv_at hl 0 rfl) ?_
              refine lv_sipush (v := 197) hx hb dX0_isOpcode_48 (by decide) ?_
              refine lv_icmp_lt (tgt := 65) hx hb dX0_isOpcode_51 (by decide) (fun c_43 => ?_) (fun c_43 => ?_)
              · replace hf := x_ip c_43 hf
                refine lv_iconst (v := 0) hx hb dX0_isOpcode_65 (by decide) ?_
                obtain rfl := Option.some.inj hf
                exact W.zret (ty := .boolean) hx hb hr rfl (fun t ht hW => ⟨⟨_, (), rfl, ⟨rfl, rfl⟩, trivial⟩, hS.F ht⟩) hS.2.2 dX0_isOpcode_66
              · replace hf := x_in c_43 hf
                refine lv_iload_n hx hb dX0_isOpcode_54 rfl (lv_at hl 0 rfl) ?_
                refine lv_sipush (v := 199) hx hb dX0_isOpcode_55 (by decide) ?_
                refine lv_icmp_gt (tgt := 65) hx hb dX0_isOpcode_58 (by decide) (fun c_44 => ?_) (fun c_44 => ?_)
                · replace hf := x_ip c_44 hf
                  refine lv_iconst (v := 0) hx hb dX0_isOpcode_65 (by decide) ?_
                  obtain rfl := Option.some.inj hf
                  exact W.zret (ty := .boolean) hx hb hr rfl (fun t ht hW => ⟨⟨_, (), rfl, ⟨rfl, rfl⟩, trivial⟩, hS.F ht⟩) hS.2.2 dX0_isOpcode_66
                · replace hf := x_in c_44 hf
                  refine lv_iconst (v := 1) hx hb dX0_isOpcode_61 (by decide) ?_
                  refine lv_goto (tgt := 66) hx hb dX0_isOpcode_62 (by decide) ?_
                  obtain rfl := Option.some.inj hf
                  exact W.zret (ty := .boolean) hx hb hr rfl (fun t ht hW => ⟨⟨_, (), rfl, ⟨rfl, rfl⟩, trivial⟩, hS.F ht⟩) hS.2.2 dX0_isOpcode_66
            · replace hf := x_in c_42 hf
              refine lv_iload_n hx hb dX0_isOpcode_40 rfl (lv_at hl 0 rfl) ?_
              refine lv_sipush (v := 195) hx hb dX0_isOpcode_41 (by decide) ?_
              refine lv_icmp_le (tgt := 61) hx hb dX0_isOpcode_44 (by decide) (fun c_45 => ?_) (fun c_45 => ?_)
              · replace hf := x_ip c_45 hf
                refine lv_iconst (v := 1) hx hb dX0_isOpcode_61 (by decide) ?_
                refine lv_goto (tgt := 66) hx hb dX0_isOpcode_62 (by decide) ?_
                obtain rfl := Option.some.inj hf
                exact W.zret (ty := .boolean) hx hb hr rfl (fun t ht hW => ⟨⟨_, (), rfl, ⟨rfl, rfl⟩, trivial⟩, hS.F ht⟩) hS.2.2 dX0_isOpcode_66
              · replace hf := x_in c_45 hf
                refine lv_iload_n hx hb dX0_isOpcode_47 rfl (lv_at hl 0 rfl) ?_
                refine lv_sipush (v := 197) hx hb dX0_isOpcode_48 (by decide) ?_
                refine lv_icmp_lt (tgt := 65) hx hb dX0_isOpcode_51 (by decide) (fun c_46 => ?_) (fun c_46 => ?_)
                · replace hf := x_ip c_46 hf
                  refine lv_iconst (v := 0) hx hb dX0_isOpcode_65 (by decide) ?_
                  obtain rfl := Option.some.inj hf
                  exact W.zret (ty := .boolean) hx hb hr rfl (fun t ht hW => ⟨⟨_, (), rfl, ⟨rfl, rfl⟩, trivial⟩, hS.F ht⟩) hS.2.2 dX0_isOpcode_66
                · replace hf := x_in c_46 hf
                  refine lv_iload_n hx hb dX0_isOpcode_54 rfl (lv_at hl 0 rfl) ?_
                  refine lv_sipush (v := 199) hx hb dX0_isOpcode_55 (by decide) ?_
                  refine lv_icmp_gt (tgt := 65) hx hb dX0_isOpcode_58 (by decide) (fun c_47 => ?_) (fun c_47 => ?_)
                  · replace hf := x_ip c_47 hf
                    refine lv_iconst (v := 0) hx hb dX0_isOpcode_65 (by decide) ?_
                    obtain rfl := Option.some.inj hf
                    exact W.zret (ty := .boolean) hx hb hr rfl (fun t ht hW => ⟨⟨_, (), rfl, ⟨rfl, rfl⟩, trivial⟩, hS.F ht⟩) hS.2.2 dX0_isOpcode_66
                  · replace hf := x_in c_47 hf
                    refine lv_iconst (v := 1) hx hb dX0_isOpcode_61 (by decide) ?_
                    refine lv_goto (tgt := 66) hx hb dX0_isOpcode_62 (by decide) ?_
                    obtain rfl := Option.some.inj hf
                    exact W.zret (ty := .boolean) hx hb hr rfl (fun t ht hW => ⟨⟨_, (), rfl, ⟨rfl, rfl⟩, trivial⟩, hS.F ht⟩) hS.2.2 dX0_isOpcode_66
      · replace hf := x_in c_33 hf
        refine lv_iload_n hx hb dX0_isOpcode_16 rfl (lv_at hl 0 rfl) ?_
        refine lv_bipush (v := 25) hx hb dX0_isOpcode_17 (by decide) ?_
        refine lv_icmp_le (tgt := 61) hx hb dX0_isOpcode_19 (by decide) (fun c_48 => ?_) (fun c_48 => ?_)
        · replace hf := x_ip c_48 hf
          refine lv_iconst (v := 1) hx hb dX0_isOpcode_61 (by decide) ?_
          refine lv_goto (tgt := 66) hx hb dX0_isOpcode_62 (by decide) ?_
          obtain rfl := Option.some.inj hf
          exact W.zret (ty := .boolean) hx hb hr rfl (fun t ht hW => ⟨⟨_, (), rfl, ⟨rfl, rfl⟩, trivial⟩, hS.F ht⟩) hS.2.2 dX0_isOpcode_66
        · replace hf := x_in c_48 hf
          refine lv_iload_n hx hb dX0_isOpcode_22 rfl (lv_at hl 0 rfl) ?_
          refine lv_bipush (v := 46) hx hb dX0_isOpcode_23 (by decide) ?_
          refine lv_icmp_lt (tgt := 34) hx hb dX0_isOpcode_25 (by decide) (fun c_49 => ?_) (fun c_49 => ?_)
          · replace hf := x_ip c_49 hf
            refine lv_iload_n hx hb dX0_isOpcode_34 rfl (lv_at hl 0 rfl) ?_
            refine lv_bipush (v := 79) hx hb dX0_isOpcode_35 (by decide) ?_
            refine lv_icmp_lt (tgt := 47) hx hb dX0_isOpcode_37 (by decide) (fun c_50 => ?_) (fun c_50 => ?_)
            · replace hf := x_ip c_50 hf
              refine lv_iload_n hx hb dX0_isOpcode_47 rfl (lv_at hl 0 rfl) ?_
              refine lv_sipush (v := 197) hx hb dX0_isOpcode_48 (by decide) ?_
              refine lv_icmp_lt (tgt := 65) hx hb dX0_isOpcode_51 (by decide) (fun c_51 => ?_) (fun c_51 => ?_)
              · replace hf := x_ip c_51 hf
                refine lv_iconst (v := 0) hx hb dX0_isOpcode_65 (by decide) ?_
                obtain rfl := Option.some.inj hf
                exact W.zret (ty := .boolean) hx hb hr rfl (fun t ht hW => ⟨⟨_, (), rfl, ⟨rfl, rfl⟩, trivial⟩, hS.F ht⟩) hS.2.2 dX0_isOpcode_66
              · replace hf := x_in c_51 hf
                refine lv_iload_n hx hb dX0_isOpcode_54 rfl (lv_at hl 0 rfl) ?_
                refine lv_sipush (v := 199) hx hb dX0_isOpcode_55 (by decide) ?_
                refine lv_icmp_gt (tgt := 65) hx hb dX0_isOpcode_58 (by decide) (fun c_52 => ?_) (fun c_52 => ?_)
                · replace hf := x_ip c_52 hf
                  refine lv_iconst (v := 0) hx hb dX0_isOpcode_65 (by decide) ?_
                  obtain rfl := Option.some.inj hf
                  exact W.zret (ty := .boolean) hx hb hr rfl (fun t ht hW => ⟨⟨_, (), rfl, ⟨rfl, rfl⟩, trivial⟩, hS.F ht⟩) hS.2.2 dX0_isOpcode_66
                · replace hf := x_in c_52 hf
                  refine lv_iconst (v := 1) hx hb dX0_isOpcode_61 (by decide) ?_
                  refine lv_goto (tgt := 66) hx hb dX0_isOpcode_62 (by decide) ?_
                  obtain rfl := Option.some.inj hf
                  exact W.zret (ty := .boolean) hx hb hr rfl (fun t ht hW => ⟨⟨_, (), rfl, ⟨rfl, rfl⟩, trivial⟩, hS.F ht⟩) hS.2.2 dX0_isOpcode_66
            · replace hf := x_in c_50 hf
              refine lv_iload_n hx hb dX0_isOpcode_40 rfl (lv_at hl 0 rfl) ?_
              refine lv_sipush (v := 195) hx hb dX0_isOpcode_41 (by decide) ?_
              refine lv_icmp_le (tgt := 61) hx hb dX0_isOpcode_44 (by decide) (fun c_53 => ?_) (fun c_53 => ?_)
              · replace hf := x_ip c_53 hf
                refine lv_iconst (v := 1) hx hb dX0_isOpcode_61 (by decide) ?_
                refine lv_goto (tgt := 66) hx hb dX0_isOpcode_62 (by decide) ?_
                obtain rfl := Option.some.inj hf
                exact W.zret (ty := .boolean) hx hb hr rfl (fun t ht hW => ⟨⟨_, (), rfl, ⟨rfl, rfl⟩, trivial⟩, hS.F ht⟩) hS.2.2 dX0_isOpcode_66
              · replace hf := x_in c_53 hf
                refine lv_iload_n hx hb dX0_isOpcode_47 rfl (lv_at hl 0 rfl) ?_
                refine lv_sipush (v := 197) hx hb dX0_isOpcode_48 (by decide) ?_
                refine lv_icmp_lt (tgt := 65) hx hb dX0_isOpcode_51 (by decide) (fun c_54 => ?_) (fun c_54 => ?_)
                · replace hf := x_ip c_54 hf
                  refine lv_iconst (v := 0) hx hb dX0_isOpcode_65 (by decide) ?_
                  obtain rfl := Option.some.inj hf
                  exact W.zret (ty := .boolean) hx hb hr rfl (fun t ht hW => ⟨⟨_, (), rfl, ⟨rfl, rfl⟩, trivial⟩, hS.F ht⟩) hS.2.2 dX0_isOpcode_66
                · replace hf := x_in c_54 hf
                  refine lv_iload_n hx hb dX0_isOpcode_54 rfl (lv_at hl 0 rfl) ?_
                  refine lv_sipush (v := 199) hx hb dX0_isOpcode_55 (by decide) ?_
                  refine lv_icmp_gt (tgt := 65) hx hb dX0_isOpcode_58 (by decide) (fun c_55 => ?_) (fun c_55 => ?_)
                  · replace hf := x_ip c_55 hf
                    refine lv_iconst (v := 0) hx hb dX0_isOpcode_65 (by decide) ?_
                    obtain rfl := Option.some.inj hf
                    exact W.zret (ty := .boolean) hx hb hr rfl (fun t ht hW => ⟨⟨_, (), rfl, ⟨rfl, rfl⟩, trivial⟩, hS.F ht⟩) hS.2.2 dX0_isOpcode_66
                  · replace hf := x_in c_55 hf
                    refine lv_iconst (v := 1) hx hb dX0_isOpcode_61 (by decide) ?_
                    refine lv_goto (tgt := 66) hx hb dX0_isOpcode_62 (by decide) ?_
                    obtain rfl := Option.some.inj hf
                    exact W.zret (ty := .boolean) hx hb hr rfl (fun t ht hW => ⟨⟨_, (), rfl, ⟨rfl, rfl⟩, trivial⟩, hS.F ht⟩) hS.2.2 dX0_isOpcode_66
          · replace hf := x_in c_49 hf
            refine lv_iload_n hx hb dX0_isOpcode_28 rfl (lv_at hl 0 rfl) ?_
            refine lv_bipush (v := 58) hx hb dX0_isOpcode_29 (by decide) ?_
            refine lv_icmp_le (tgt := 61) hx hb dX0_isOpcode_31 (by decide) (fun c_56 => ?_) (fun c_56 => ?_)
            · replace hf := x_ip c_56 hf
              refine lv_iconst (v := 1) hx hb dX0_isOpcode_61 (by decide) ?_
              refine lv_goto (tgt := 66) hx hb dX0_isOpcode_62 (by decide) ?_
              obtain rfl := Option.some.inj hf
              exact W.zret (ty := .boolean) hx hb hr rfl (fun t ht hW => ⟨⟨_, (), rfl, ⟨rfl, rfl⟩, trivial⟩, hS.F ht⟩) hS.2.2 dX0_isOpcode_66
            · replace hf := x_in c_56 hf
              refine lv_iload_n hx hb dX0_isOpcode_34 rfl (lv_at hl 0 rfl) ?_
              refine lv_bipush (v := 79) hx hb dX0_isOpcode_35 (by decide) ?_
              refine lv_icmp_lt (tgt := 47) hx hb dX0_isOpcode_37 (by decide) (fun c_57 => ?_) (fun c_57 => ?_)
              · replace hf := x_ip c_57 hf
                refine lv_iload_n hx hb dX0_isOpcode_47 rfl (lv_at hl 0 rfl) ?_
                refine lv_sipush (v := 197) hx hb dX0_isOpcode_48 (by decide) ?_
                refine lv_icmp_lt (tgt := 65) hx hb dX0_isOpcode_51 (by decide) (fun c_58 => ?_) (fun c_58 => ?_)
                · replace hf := x_ip c_58 hf
                  refine lv_iconst (v := 0) hx hb dX0_isOpcode_65 (by decide) ?_
                  obtain rfl := Option.some.inj hf
                  exact W.zret (ty := .boolean) hx hb hr rfl (fun t ht hW => ⟨⟨_, (), rfl, ⟨rfl, rfl⟩, trivial⟩, hS.F ht⟩) hS.2.2 dX0_isOpcode_66
                · replace hf := x_in c_58 hf
                  refine lv_iload_n hx hb dX0_isOpcode_54 rfl (lv_at hl 0 rfl) ?_
                  refine lv_sipush (v := 199) hx hb dX0_isOpcode_55 (by decide) ?_
                  refine lv_icmp_gt (tgt := 65) hx hb dX0_isOpcode_58 (by decide) (fun c_59 => ?_) (fun c_59 => ?_)
                  · replace hf := x_ip c_59 hf
                    refine lv_iconst (v := 0) hx hb dX0_isOpcode_65 (by decide) ?_
                    obtain rfl := Option.some.inj hf
                    exact W.zret (ty := .boolean) hx hb hr rfl (fun t ht hW => ⟨⟨_, (), rfl, ⟨rfl, rfl⟩, trivial⟩, hS.F ht⟩) hS.2.2 dX0_isOpcode_66
                  · replace hf := x_in c_59 hf
                    refine lv_iconst (v := 1) hx hb dX0_isOpcode_61 (by decide) ?_
                    refine lv_goto (tgt := 66) hx hb dX0_isOpcode_62 (by decide) ?_
                    obtain rfl := Option.some.inj hf
                    exact W.zret (ty := .boolean) hx hb hr rfl (fun t ht hW => ⟨⟨_, (), rfl, ⟨rfl, rfl⟩, trivial⟩, hS.F ht⟩) hS.2.2 dX0_isOpcode_66
              · replace hf := x_in c_57 hf
                refine lv_iload_n hx hb dX0_isOpcode_40 rfl (lv_at hl 0 rfl) ?_
                refine lv_sipush (v := 195) hx hb dX0_isOpcode_41 (by decide) ?_
                refine lv_icmp_le (tgt := 61) hx hb dX0_isOpcode_44 (by decide) (fun c_60 => ?_) (fun c_60 => ?_)
                · replace hf := x_ip c_60 hf
                  refine lv_iconst (v := 1) hx hb dX0_isOpcode_61 (by decide) ?_
                  refine lv_goto (tgt := 66) hx hb dX0_isOpcode_62 (by decide) ?_
                  obtain rfl := Option.some.inj hf
                  exact W.zret (ty := .boolean) hx hb hr rfl (fun t ht hW => ⟨⟨_, (), rfl, ⟨rfl, rfl⟩, trivial⟩, hS.F ht⟩) hS.2.2 dX0_isOpcode_66
                · replace hf := x_in c_60 hf
                  refine lv_iload_n hx hb dX0_isOpcode_47 rfl (lv_at hl 0 rfl) ?_
                  refine lv_sipush (v := 197) hx hb dX0_isOpcode_48 (by decide) ?_
                  refine lv_icmp_lt (tgt := 65) hx hb dX0_isOpcode_51 (by decide) (fun c_61 => ?_) (fun c_61 => ?_)
                  · replace hf := x_ip c_61 hf
                    refine lv_iconst (v := 0) hx hb dX0_isOpcode_65 (by decide) ?_
                    obtain rfl := Option.some.inj hf
                    exact W.zret (ty := .boolean) hx hb hr rfl (fun t ht hW => ⟨⟨_, (), rfl, ⟨rfl, rfl⟩, trivial⟩, hS.F ht⟩) hS.2.2 dX0_isOpcode_66
                  · replace hf := x_in c_61 hf
                    refine lv_iload_n hx hb dX0_isOpcode_54 rfl (lv_at hl 0 rfl) ?_
                    refine lv_sipush (v := 199) hx hb dX0_isOpcode_55 (by decide) ?_
                    refine lv_icmp_gt (tgt := 65) hx hb dX0_isOpcode_58 (by decide) (fun c_62 => ?_) (fun c_62 => ?_)
                    · replace hf := x_ip c_62 hf
                      refine lv_iconst (v := 0) hx hb dX0_isOpcode_65 (by decide) ?_
                      obtain rfl := Option.some.inj hf
                      exact W.zret (ty := .boolean) hx hb hr rfl (fun t ht hW => ⟨⟨_, (), rfl, ⟨rfl, rfl⟩, trivial⟩, hS.F ht⟩) hS.2.2 dX0_isOpcode_66
                    · replace hf := x_in c_62 hf
                      refine lv_iconst (v := 1) hx hb dX0_isOpcode_61 (by decide) ?_
                      refine lv_goto (tgt := 66) hx hb dX0_isOpcode_62 (by decide) ?_
                      obtain rfl := Option.some.inj hf
                      exact W.zret (ty := .boolean) hx hb hr rfl (fun t ht hW => ⟨⟨_, (), rfl, ⟨rfl, rfl⟩, trivial⟩, hS.F ht⟩) hS.2.2 dX0_isOpcode_66

