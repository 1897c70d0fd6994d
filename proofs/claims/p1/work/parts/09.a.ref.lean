def f_X9_isClass (p0 : Int32) : Int32 := if p0 < (0 : Int32) then 0 else if (4 : Int32) ≤ p0 then 0 else 1
theorem b_X9_isClass (p0 : Int32) : x_nb (f_X9_isClass p0) := (x_ite rfl (x_ite rfl rfl))
theorem i_X9_isClass_X9 : ∀ w ∈ wsX90, w ∈ wsX9_isClass := by decide +kernel
set_option maxHeartbeats 4000000 in
set_option maxRecDepth 100000 in
theorem c_X9_isClass (l : Launch) (dC : Nat → ClassId) (dI : Nat → Nat → Nat) (cyI cyZ cyJ : ClassId) (sz : Nat) (h0 : Nat) (a4 : Nat) (a5 : Nat) (a6 : Nat) (a7 : Nat) (a8 : Nat) (a9 : Nat) (a10 : Nat) (a11 : Nat) (a12 : Nat) (a19 : Nat) (a23 : Nat) (a24 : Nat) (a25 : Nat) (a26 : Nat) (a27 : Nat) (a28 : Nat) (a29 : Nat) (a30 : Nat) (a31 : Nat) (a32 : Nat) (a33 : Nat) (a34 : Nat) (a37 : Nat) (a38 : Nat) (a39 : Nat) (a40 : Nat) (a41 : Nat) (a43 : Nat) (a44 : Nat) (a45 : Nat) (a46 : Nat) (a47 : Nat) (a52 : Nat) (a53 : Nat) (a56 : Nat) (a57 : Nat) (a59 : Nat) (a60 : Nat) (a61 : Nat) (p0 : Int32) : Met l yX9_isClass wsX9_isClass ({ frames := 0, cells := 0, slots := 0, locals := 0 }) (va_Pc [.ref h0, .int p0] (x_Pre (dC, dI) (x_T cyI cyZ cyJ) [(h0, .inr (9, [.int 0, .int 4, .int 0, .int 0, .ref a4, .ref a5, .ref a6, .ref a7, .ref a8, .ref a9, .ref a10, .ref a11, .ref a12, .int 0, .int 0, .int (-1), .int 0, .int 0, .int 0, .ref a19, .int 0, .int 0, .int 0, .ref a23, .ref a24, .ref a25, .ref a26, .ref a27, .ref a28, .ref a29, .ref a30, .ref a31, .ref a32, .ref a33, .ref a34, .int 0, .int 0, .ref a37, .ref a38, .ref a39, .ref a40, .ref a41, .int 0, .ref a43, .ref a44, .ref a45, .ref a46, .ref a47, .int 0, .int 0, .int 0, .int 0, .ref a52, .ref a53, .int 0, .int 0, .ref a56, .ref a57, .int 0, .ref a59, .ref a60, .ref a61]))] sz)) (va_Qi (fun (r : Int32) (_ : Unit) => r = f_X9_isClass p0) (fun _ _ => True) (x_new sz)) 0 0 (x_new sz) := by
  refine Met.ofW (cc := cX9_isClass) (maxL := 2) (ret := (some .boolean)) (by decide) rfl ?_
  intro p e s m args below meth c s₁ B hml hv
  obtain ⟨rfl, hsz, hP, hK, hN⟩ := hv
  have hx := B.exec
  have hb := B.bytes
  have hr := B.returns
  have hts := atoms_spec (ws := wsX9_isClass) B.pre
  have hown : s.vm.findClass RX9 = some m.cls := findClass_of_methodNamed B.named
  have hlocks := B.notSynchronized
  have k_1 := hts (.fieldLink RX9 13 "FlowJudgeModel" "classes" "I") (by decide +kernel)
  subst hsz
  have hA : ∀ q : Nat, s.heap.size ≤ q → x_new s.heap.size q := fun _ h => h
  have hS : va_S (x_new s.heap.size) s.heap s.heap [] := va_S.rf
  have hP : va_P (dC, dI) vwCl [(h0, .inr (9, [.int 0, .int 4, .int 0, .int 0, .ref a4, .ref a5, .ref a6, .ref a7, .ref a8, .ref a9, .ref a10, .ref a11, .ref a12, .int 0, .int 0, .int (-1), .int 0, .int 0, .int 0, .ref a19, .int 0, .int 0, .int 0, .ref a23, .ref a24, .ref a25, .ref a26, .ref a27, .ref a28, .ref a29, .ref a30, .ref a31, .ref a32, .ref a33, .ref a34, .int 0, .int 0, .ref a37, .ref a38, .ref a39, .ref a40, .ref a41, .int 0, .ref a43, .ref a44, .ref a45, .ref a46, .ref a47, .int 0, .int 0, .int 0, .int 0, .ref a52, .ref a53, .int 0, .int 0, .ref a56, .ref a57, .int 0, .ref a59, .ref a60, .ref a61]))] s.heap := hP
  have hl := lv_entry ([.ref h0, .int p0]) (n := 2) (Nat.le_of_ble_eq_true rfl)
  rw [lg_entry_eq]
  generalize (lg_sl ([.ref h0, .int p0]) ++ List.replicate (2 - (lg_sl ([.ref h0, .int p0])).length) Slot.unset).toArray = ls at hl ⊢
  have hl : lv_has ls 2 [(0, .ref h0), (1, .int p0)] := hl
  obtain ⟨H, hH⟩ : ∃ z, z = s.heap := ⟨_, rfl⟩
  refine x_here hH ?_
  have hP : va_P (dC, dI) vwCl [(h0, .inr (9, [.int 0, .int 4, .int 0, .int 0, .ref a4, .ref a5, .ref a6, .ref a7, .ref a8, .ref a9, .ref a10, .ref a11, .ref a12, .int 0, .int 0, .int (-1), .int 0, .int 0, .int 0, .ref a19, .int 0, .int 0, .int 0, .ref a23, .ref a24, .ref a25, .ref a26, .ref a27, .ref a28, .ref a29, .ref a30, .ref a31, .ref a32, .ref a33, .ref a34, .int 0, .int 0, .ref a37, .ref a38, .ref a39, .ref a40, .ref a41, .int 0, .ref a43, .ref a44, .ref a45, .ref a46, .ref a47, .int 0, .int 0, .int 0, .int 0, .ref a52, .ref a53, .int 0, .int 0, .ref a56, .ref a57, .int 0, .ref a59, .ref a60, .ref a61]))] H := by rw [hH]; exact hP
  have hS : va_S (x_new s.heap.size) s.heap H [] := by rw [hH]; exact va_S.rf
  clear hH
  refine lv_iload_n hx hb dX9_isClass_0 rfl (lv_at hl 1 rfl) ?_
  refine lv_if_lt (tgt := 16) hx hb dX9_isClass_1 (by decide) (fun c_1 => ?_) (fun c_1 => ?_)
  · skip
    refine lv_iconst (v := 0) hx hb dX9_isClass_16 (by decide) ?_
    exact W.zret (ty := .boolean) hx hb hr rfl (fun t ht hW => ⟨⟨_, (), rfl, by rw [f_X9_isClass, if_pos c_1], trivial⟩, hS.F ht⟩) hS.2.2 dX9_isClass_17
  · skip
    refine lv_iload_n hx hb dX9_isClass_4 rfl (lv_at hl 1 rfl) ?_
    refine lv_aload_n hx hb dX9_isClass_5 rfl (lv_at hl 0 rfl) ?_
    refine va_get (D := (dC, dI)) (ci := 9) (v := .int 4) (C := RX9) (T := TX9) (N := 62) hx hb hts i_X9_isClass_X9 hown hK hP 0 rfl rfl 1 (by decide) k_1 (fun _ h9 => h9) rfl dX9_isClass_6 ?_
    refine lv_icmp_ge (tgt := 16) hx hb dX9_isClass_9 (by decide) (fun c_2 => ?_) (fun c_2 => ?_)
    · skip
      refine lv_iconst (v := 0) hx hb dX9_isClass_16 (by decide) ?_
      exact W.zret (ty := .boolean) hx hb hr rfl (fun t ht hW => ⟨⟨_, (), rfl, by rw [f_X9_isClass, if_neg c_1, if_pos c_2], trivial⟩, hS.F ht⟩) hS.2.2 dX9_isClass_17
    · skip
      refine lv_iconst (v := 1) hx hb dX9_isClass_12 (by decide) ?_
      refine lv_goto (tgt := 17) hx hb dX9_isClass_13 (by decide) ?_
      exact W.zret (ty := .boolean) hx hb hr rfl (fun t ht hW => ⟨⟨_, (), rfl, by rw [f_X9_isClass, if_neg c_1, if_neg c_2], trivial⟩, hS.F ht⟩) hS.2.2 dX9_isClass_17

def f_X9_isPrimitive (p0 : Int32) : Int32 := if p0 < (65528 : Int32) then 0 else if (65536 : Int32) ≤ p0 then 0 else 1
theorem b_X9_isPrimitive (p0 : Int32) : x_nb (f_X9_isPrimitive p0) := (x_ite rfl (x_ite rfl rfl))
set_option maxHeartbeats 4000000 in
set_option maxRecDepth 100000 in
theorem c_X9_isPrimitive (l : Launch) (dC : Nat → ClassId) (dI : Nat → Nat → Nat) (cyI cyZ cyJ : ClassId) (sz : Nat) (h0 : Nat) (a4 : Nat) (a5 : Nat) (a6 : Nat) (a7 : Nat) (a8 : Nat) (a9 : Nat) (a10 : Nat) (a11 : Nat) (a12 : Nat) (a19 : Nat) (a23 : Nat) (a24 : Nat) (a25 : Nat) (a26 : Nat) (a27 : Nat) (a28 : Nat) (a29 : Nat) (a30 : Nat) (a31 : Nat) (a32 : Nat) (a33 : Nat) (a34 : Nat) (a37 : Nat) (a38 : Nat) (a39 : Nat) (a40 : Nat) (a41 : Nat) (a43 : Nat) (a44 : Nat) (a45 : Nat) (a46 : Nat) (a47 : Nat) (a52 : Nat) (a53 : Nat) (a56 : Nat) (a57 : Nat) (a59 : Nat) (a60 : Nat) (a61 : Nat) (p0 : Int32) : Met l yX9_isPrimitive wsX9_isPrimitive ({ frames := 0, cells := 0, slots := 0, locals := 0 }) (va_Pc [.ref h0, .int p0] (x_Pre (dC, dI) (x_T cyI cyZ cyJ) [(h0, .inr (9, [.int 0, .int 4, .int 0, .int 0, .ref a4, .ref a5, .ref a6, .ref a7, .ref a8, .ref a9, .ref a10, .ref a11, .ref a12, .int 0, .int 0, .int (-1), .int 0, .int 0, .int 0, .ref a19, .int 0, .int 0, .int 0, .ref a23, .ref a24, .ref a25, .ref a26, .ref a27, .ref a28, .ref a29, .ref a30, .ref a31, .ref a32, .ref a33, .ref a34, .int 0, .int 0, .ref a37, .ref a38, .ref a39, .ref a40, .ref a41, .int 0, .ref a43, .ref a44, .ref a45, .ref a46, .ref a47, .int 0, .int 0, .int 0, .int 0, .ref a52, .ref a53, .int 0, .int 0, .ref a56, .ref a57, .int 0, .ref a59, .ref a60, .ref a61]))] sz)) (va_Qi (fun (r : Int32) (_ : Unit) => r = f_X9_isPrimitive p0) (fun _ _ => True) (x_new sz)) 0 0 (x_new sz) := by
  refine Met.ofW (cc := cX9_isPrimitive) (maxL := 2) (ret := (some .boolean)) (by decide) rfl ?_
  intro p e s m args below meth c s₁ B hml hv
  obtain ⟨rfl, hsz, hP, hK, hN⟩ := hv
  have hx := B.exec
  have hb := B.bytes
  have hr := B.returns
  have hts := atoms_spec (ws := wsX9_isPrimitive) B.pre
  have hown : s.vm.findClass RX9 = some m.cls := findClass_of_methodNamed B.named
  have hlocks := B.notSynchronized
  have k_1 := hts (.constant RX9 140 (65528)) (by decide +kernel)
  have k_2 := hts (.constant RX9 141 (65536)) (by decide +kernel)
  subst hsz
  have hA : ∀ q : Nat, s.heap.size ≤ q → x_new s.heap.size q := fun _ h => h
  have hS : va_S (x_new s.heap.size) s.heap s.heap [] := va_S.rf
  have hP : va_P (dC, dI) vwCl [(h0, .inr (9, [.int 0, .int 4, .int 0, .int 0, .ref a4, .ref a5, .ref a6, .ref a7, .ref a8, .ref a9, .ref a10, .ref a11, .ref a12, .int 0, .int 0, .int (-1), .int 0, .int 0, .int 0, .ref a19, .int 0, .int 0, .int 0, .ref a23, .ref a24, .ref a25, .ref a26, .ref a27, .ref a28, .ref a29, .ref a30, .ref a31, .ref a32, .ref a33, .ref a34, .int 0, .int 0, .ref a37, .ref a38, .ref a39, .ref a40, .ref a41, .int 0, .ref a43, .ref a44, .ref a45, .ref a46, .ref a47, .int 0, .int 0, .int 0, .int 0, .ref a52, .ref a53, .int 0, .int 0, .ref a56, .ref a57, .int 0, .ref a59, .ref a60, .ref a61]))] s.heap := hP
  have hl := lv_entry ([.ref h0, .int p0]) (n := 2) (Nat.le_of_ble_eq_true rfl)
  rw [lg_entry_eq]
  generalize (lg_sl ([.ref h0, .int p0]) ++ List.replicate (2 - (lg_sl ([.ref h0, .int p0])).length) Slot.unset).toArray = ls at hl ⊢
  have hl : lv_has ls 2 [(0, .ref h0), (1, .int p0)] := hl
  obtain ⟨H, hH⟩ : ∃ z, z = s.heap := ⟨_, rfl⟩
  refine x_here hH ?_
  have hP : va_P (dC, dI) vwCl [(h0, .inr (9, [.int 0, .int 4, .int 0, .int 0, .ref a4, .ref a5, .ref a6, .ref a7, .ref a8, .ref a9, .ref a10, .ref a11, .ref a12, .int 0, .int 0, .int (-1), .int 0, .int 0, .int 0, .ref a19, .int 0, .int 0, .int 0, .ref a23, .ref a24, .ref a25, .ref a26, .ref a27, .ref a28, .ref a29, .ref a30, .ref a31, .ref a32, .ref a33, .ref a34, .int 0, .int 0, .ref a37, .ref a38, .ref a39, .ref a40, .ref a41, .int 0, .ref a43, .ref a44, .ref a45, .ref a46, .ref a47, .int 0, .int 0, .int 0, .int 0, .ref a52, .ref a53, .int 0, .int 0, .ref a56, .ref a57, .int 0, .ref a59, .ref a60, .ref a61]))] H := by rw [hH]; exact hP
  have hS : va_S (x_new s.heap.size) s.heap H [] := by rw [hH]; exact va_S.rf
  clear hH
  refine lv_iload_n hx hb dX9_isPrimitive_0 rfl (lv_at hl 1 rfl) ?_
  refine lv_ldc (v := 65528) hx hb hown k_1 dX9_isPrimitive_1 ?_
  refine lv_icmp_lt (tgt := 16) hx hb dX9_isPrimitive_3 (by decide) (fun c_1 => ?_) (fun c_1 => ?_)
  · skip
    refine lv_iconst (v := 0) hx hb dX9_isPrimitive_16 (by decide) ?_
    exact W.zret (ty := .boolean) hx hb hr rfl (fun t ht hW => ⟨⟨_, (), rfl, by rw [f_X9_isPrimitive, if_pos c_1], trivial⟩, hS.F ht⟩) hS.2.2 dX9_isPrimitive_17
  · skip
    refine lv_iload_n hx hb dX9_isPrimitive_6 rfl (lv_at hl 1 rfl) ?_
    refine lv_ldc (v := 65536) hx hb hown k_2 dX9_isPrimitive_7 ?_
    refine lv_icmp_ge (tgt := 16) hx hb dX9_isPrimitive_9 (by decide) (fun c_2 => ?_) (fun c_2 => ?_)
    · skip
      refine lv_iconst (v := 0) hx hb dX9_isPrimitive_16 (by decide) ?_
      exact W.zret (ty := .boolean) hx hb hr rfl (fun t ht hW => ⟨⟨_, (), rfl, by rw [f_X9_isPrimitive, if_neg c_1, if_pos c_2], trivial⟩, hS.F ht⟩) hS.2.2 dX9_isPrimitive_17
    · skip
      refine lv_iconst (v := 1) hx hb dX9_isPrimitive_12 (by decide) ?_
      refine lv_goto (tgt := 17) hx hb dX9_isPrimitive_13 (by decide) ?_
      exact W.zret (ty := .boolean) hx hb hr rfl (fun t ht hW => ⟨⟨_, (), rfl, by rw [f_X9_isPrimitive, if_neg c_1, if_neg c_2], trivial⟩, hS.F ht⟩) hS.2.2 dX9_isPrimitive_17

def f_X9_isType (p0 : Int32) : Int32 := if p0 < (0 : Int32) then 0 else if (255 : Int32) < (p0 >>> (16 &&& 31)) then 0 else if (f_X9_isClass (p0 &&& 65535)) = (0 : Int32) then if (p0 &&& 65535) < (65528 : Int32) then 0 else 1 else 1
theorem b_X9_isType (p0 : Int32) : x_nb (f_X9_isType p0) := (x_ite rfl (x_ite rfl (x_ite (x_ite rfl rfl) rfl)))
set_option maxHeartbeats 4000000 in
set_option maxRecDepth 100000 in
theorem c_X9_isType (l : Launch) (dC : Nat → ClassId) (dI : Nat → Nat → Nat) (cyI cyZ cyJ : ClassId) (sz : Nat) (h0 : Nat) (a4 : Nat) (a5 : Nat) (a6 : Nat) (a7 : Nat) (a8 : Nat) (a9 : Nat) (a10 : Nat) (a11 : Nat) (a12 : Nat) (a19 : Nat) (a23 : Nat) (a24 : Nat) (a25 : Nat) (a26 : Nat) (a27 : Nat) (a28 : Nat) (a29 : Nat) (a30 : Nat) (a31 : Nat) (a32 : Nat) (a33 : Nat) (a34 : Nat) (a37 : Nat) (a38 : Nat) (a39 : Nat) (a40 : Nat) (a41 : Nat) (a43 : Nat) (a44 : Nat) (a45 : Nat) (a46 : Nat) (a47 : Nat) (a52 : Nat) (a53 : Nat) (a56 : Nat) (a57 : Nat) (a59 : Nat) (a60 : Nat) (a61 : Nat) (p0 : Int32) : Met l yX9_isType wsX9_isType ({ frames := 1, cells := 0, slots := 0, locals := 21 }) (va_Pc [.ref h0, .int p0] (x_Pre (dC, dI) (x_T cyI cyZ cyJ) [(h0, .inr (9, [.int 0, .int 4, .int 0, .int 0, .ref a4, .ref a5, .ref a6, .ref a7, .ref a8, .ref a9, .ref a10, .ref a11, .ref a12, .int 0, .int 0, .int (-1), .int 0, .int 0, .int 0, .ref a19, .int 0, .int 0, .int 0, .ref a23, .ref a24, .ref a25, .ref a26, .ref a27, .ref a28, .ref a29, .ref a30, .ref a31, .ref a32, .ref a33, .ref a34, .int 0, .int 0, .ref a37, .ref a38, .ref a39, .ref a40, .ref a41, .int 0, .ref a43, .ref a44, .ref a45, .ref a46, .ref a47, .int 0, .int 0, .int 0, .int 0, .ref a52, .ref a53, .int 0, .int 0, .ref a56, .ref a57, .int 0, .ref a59, .ref a60, .ref a61]))] sz)) (va_Qi (fun (r : Int32) (_ : Unit) => r = f_X9_isType p0) (fun _ _ => True) (x_new sz)) 0 0 (x_new sz) := by
  refine Met.ofW (cc := cX9_isType) (maxL := 2) (ret := (some .boolean)) (by decide) rfl ?_
  intro p e s m args below meth c s₁ B hml hv
  obtain ⟨rfl, hsz, hP, hK, hN⟩ := hv
  have hx := B.exec
  have hb := B.bytes
  have hr := B.returns
  have hts := atoms_spec (ws := wsX9_isType) B.pre
  have hown : s.vm.findClass RX9 = some m.cls := findClass_of_methodNamed B.named
  have hlocks := B.notSynchronized
  have k_1 := hts (.constant RX9 142 (65535)) (by decide +kernel)
  have k_2 := hts (.constant RX9 140 (65528)) (by decide +kernel)
  subst hsz
  have hA : ∀ q : Nat, s.heap.size ≤ q → x_new s.heap.size q := fun _ h => h
  have hS : va_S (x_new s.heap.size) s.heap s.heap [] := va_S.rf
  have hP : va_P (dC, dI) vwCl [(h0, .inr (9, [.int 0, .int 4, .int 0, .int 0, .ref a4, .ref a5, .ref a6, .ref a7, .ref a8, .ref a9, .ref a10, .ref a11, .ref a12, .int 0, .int 0, .int (-1), .int 0, .int 0, .int 0, .ref a19, .int 0, .int 0, .int 0, .ref a23, .ref a24, .ref a25, .ref a26, .ref a27, .ref a28, .ref a29, .ref a30, .ref a31, .ref a32, .ref a33, .ref a34, .int 0, .int 0, .ref a37, .ref a38, .ref a39, .ref a40, .ref a41, .int 0, .ref a43, .ref a44, .ref a45, .ref a46, .ref a47, .int 0, .int 0, .int 0, .int 0, .ref a52, .ref a53, .int 0, .int 0, .ref a56, .ref a57, .int 0, .ref a59, .ref a60, .ref a61]))] s.heap := hP
  have hl := lv_entry ([.ref h0, .int p0]) (n := 2) (Nat.le_of_ble_eq_true rfl)
  rw [lg_entry_eq]
  generalize (lg_sl ([.ref h0, .int p0]) ++ List.replicate (2 - (lg_sl ([.ref h0, .int p0])).length) Slot.unset).toArray = ls at hl ⊢
  have hl : lv_has ls 2 [(0, .ref h0), (1, .int p0)] := hl
  obtain ⟨H, hH⟩ : ∃ z, z = s.heap := ⟨_, rfl⟩
  refine x_here hH ?_
  have hP : va_P (dC, dI) vwCl [(h0, .inr (9, [.int 0, .int 4, .int 0, .int 0, .ref a4, .ref a5, .ref a6, .ref a7, .ref a8, .ref a9, .ref a10, .ref a11, .ref a12, .int 0, .int 0, .int (-1), .int 0, .int 0, .int 0, .ref a19, .int 0, .int 0, .int 0, .ref a23, .ref a24, .ref a25, .ref a26, .ref a27, .ref a28, .ref a29, .ref a30, .ref a31, .ref a32, .ref a33, .ref a34, .int 0, .int 0, .ref a37, .ref a38, .ref a39, .ref a40, .ref a41, .int 0, .ref a43, .ref a44, .ref a45, .ref a46, .ref a47, .int 0, .int 0, .int 0, .int 0, .ref a52, .ref a53, .int 0, .int 0, .ref a56, .ref a57, .int 0, .ref a59, .ref a60, .ref a61]))] H := by rw [hH]; exact hP
  have hS : va_S (x_new s.heap.size) s.heap H [] := by rw [hH]; exact va_S.rf
  clear hH
  refine lv_iload_n hx hb dX9_isType_0 rfl (lv_at hl 1 rfl) ?_
  refine lv_if_lt (tgt := 38) hx hb dX9_isType_1 (by decide) (fun c_1 => ?_) (fun c_1 => ?_)
  · skip
    refine lv_iconst (v := 0) hx hb dX9_isType_38 (by decide) ?_
    exact W.zret (ty := .boolean) hx hb hr rfl (fun t ht hW => ⟨⟨_, (), rfl, by rw [f_X9_isType, if_pos c_1], trivial⟩, hS.F ht⟩) hS.2.2 dX9_isType_39
  · skip
    refine lv_iload_n hx hb dX9_isType_4 rfl (lv_at hl 1 rfl) ?_
    refine lv_bipush (v := 16) hx hb dX9_isType_5 (by decide) ?_
    refine lv_ishr hx hb dX9_isType_7 ?_
    refine lv_sipush (v := 255) hx hb dX9_isType_8 (by decide) ?_
    refine lv_icmp_gt (tgt := 38) hx hb dX9_isType_11 (by decide) (fun c_2 => ?_) (fun c_2 => ?_)
    · skip
      refine lv_iconst (v := 0) hx hb dX9_isType_38 (by decide) ?_
      exact W.zret (ty := .boolean) hx hb hr rfl (fun t ht hW => ⟨⟨_, (), rfl, by rw [f_X9_isType, if_neg c_1, if_pos c_2], trivial⟩, hS.F ht⟩) hS.2.2 dX9_isType_39
    · skip
      refine lv_aload_n hx hb dX9_isType_14 rfl (lv_at hl 0 rfl) ?_
      refine lv_iload_n hx hb dX9_isType_15 rfl (lv_at hl 1 rfl) ?_
      refine lv_ldc (v := 65535) hx hb hown k_1 dX9_isType_16 ?_
      refine lv_iand hx hb dX9_isType_18 ?_
      have hPc := hP.sub (ws' := [(h0, .inr (9, [.int 0, .int 4, .int 0, .int 0, .ref a4, .ref a5, .ref a6, .ref a7, .ref a8, .ref a9, .ref a10, .ref a11, .ref a12, .int 0, .int 0, .int (-1), .int 0, .int 0, .int 0, .ref a19, .int 0, .int 0, .int 0, .ref a23, .ref a24, .ref a25, .ref a26, .ref a27, .ref a28, .ref a29, .ref a30, .ref a31, .ref a32, .ref a33, .ref a34, .int 0, .int 0, .ref a37, .ref a38, .ref a39, .ref a40, .ref a41, .int 0, .ref a43, .ref a44, .ref a45, .ref a46, .ref a47, .int 0, .int 0, .int 0, .int 0, .ref a52, .ref a53, .int 0, .int 0, .ref a56, .ref a57, .int 0, .ref a59, .ref a60, .ref a61]))]) [0] rfl
      refine va_calli (va_runV (As := [.int (p0 &&& 65535)]) (rest := []) ⟨hx, hb, hml, hown, hts⟩ (c_X9_isClass l dC dI cyI cyZ cyJ H.size h0 a4 a5 a6 a7 a8 a9 a10 a11 a12 a19 a23 a24 a25 a26 a27 a28 a29 a30 a31 a32 a33 a34 a37 a38 a39 a40 a41 a43 a44 a45 a46 a47 a52 a53 a56 a57 a59 a60 a61 (p0 &&& 65535)) (cwV 1 hts gX9_isType_X9_isClass rfl rfl rfl (by decide +kernel) ⟨Nat.le_of_ble_eq_true rfl, Nat.le_of_ble_eq_true rfl⟩) (x_pV hN hK hPc (ci := 9) (q0 := 0) rfl rfl) rfl rfl hl.1 rfl (lv_room (Nat.le_of_ble_eq_true rfl)) dX9_isType_19 ⟨Nat.le_of_ble_eq_true rfl, Nat.le_of_ble_eq_true rfl⟩) hS x_nA (x_nf hA hS) (fun r_19 u t H1 locs ht hvm hw hB hz1 hk1 hS => ?_)
      have hP := x_kp hP hk1
      clear ht hvm hB hz1 hk1 t u hPc
      generalize H1 = H at hP hS ⊢
      obtain rfl := hw
      refine lv_if_ne (tgt := 34) hx hb dX9_isType_22 (by decide) (fun c_3 => ?_) (fun c_3 => ?_)
      · skip
        refine lv_iconst (v := 1) hx hb dX9_isType_34 (by decide) ?_
        refine lv_goto (tgt := 39) hx hb dX9_isType_35 (by decide) ?_
        exact W.zret (ty := .boolean) hx hb hr rfl (fun t ht hW => ⟨⟨_, (), rfl, by rw [f_X9_isType, if_neg c_1, if_neg c_2, if_neg c_3], trivial⟩, hS.F ht⟩) hS.2.2 dX9_isType_39
      · skip
        refine lv_iload_n hx hb dX9_isType_25 rfl (lv_at hl 1 rfl) ?_
        refine lv_ldc (v := 65535) hx hb hown k_1 dX9_isType_26 ?_
        refine lv_iand hx hb dX9_isType_28 ?_
        refine lv_ldc (v := 65528) hx hb hown k_2 dX9_isType_29 ?_
        refine lv_icmp_lt (tgt := 38) hx hb dX9_isType_31 (by decide) (fun c_4 => ?_) (fun c_4 => ?_)
        · skip
          refine lv_iconst (v := 0) hx hb dX9_isType_38 (by decide) ?_
          exact W.zret (ty := .boolean) hx hb hr rfl (fun t ht hW => ⟨⟨_, (), rfl, by rw [f_X9_isType, if_neg c_1, if_neg c_2, if_pos c_3, if_pos c_4], trivial⟩, hS.F ht⟩) hS.2.2 dX9_isType_39
        · skip
          refine lv_iconst (v := 1) hx hb dX9_isType_34 (by decide) ?_
          refine lv_goto (tgt := 39) hx hb dX9_isType_35 (by decide) ?_
          exact W.zret (ty := .boolean) hx hb hr rfl (fun t ht hW => ⟨⟨_, (), rfl, by rw [f_X9_isType, if_neg c_1, if_neg c_2, if_pos c_3, if_neg c_4], trivial⟩, hS.F ht⟩) hS.2.2 dX9_isType_39

def f_X9_isWide (p0 : Int32) : Int32 := if p0 = (65531 : Int32) then 1 else if p0 = (65535 : Int32) then 1 else 0
theorem b_X9_isWide (p0 : Int32) : x_nb (f_X9_isWide p0) := (x_ite rfl (x_ite rfl rfl))
set_option maxHeartbeats 4000000 in
set_option maxRecDepth 100000 in
theorem c_X9_isWide (l : Launch) (dC : Nat → ClassId) (dI : Nat → Nat → Nat) (cyI cyZ cyJ : ClassId) (sz : Nat) (h0 : Nat) (a4 : Nat) (a5 : Nat) (a6 : Nat) (a7 : Nat) (a8 : Nat) (a9 : Nat) (a10 : Nat) (a11 : Nat) (a12 : Nat) (a19 : Nat) (a23 : Nat) (a24 : Nat) (a25 : Nat) (a26 : Nat) (a27 : Nat) (a28 : Nat) (a29 : Nat) (a30 : Nat) (a31 : Nat) (a32 : Nat) (a33 : Nat) (a34 : Nat) (a37 : Nat) (a38 : Nat) (a39 : Nat) (a40 : Nat) (a41 : Nat) (a43 : Nat) (a44 : Nat) (a45 : Nat) (a46 : Nat) (a47 : Nat) (a52 : Nat) (a53 : Nat) (a56 : Nat) (a57 : Nat) (a59 : Nat) (a60 : Nat) (a61 : Nat) (p0 : Int32) : Met l yX9_isWide wsX9_isWide ({ frames := 0, cells := 0, slots := 0, locals := 0 }) (va_Pc [.ref h0, .int p0] (x_Pre (dC, dI) (x_T cyI cyZ cyJ) [(h0, .inr (9, [.int 0, .int 4, .int 0, .int 0, .ref a4, .ref a5, .ref a6, .ref a7, .ref a8, .ref a9, .ref a10, .ref a11, .ref a12, .int 0, .int 0, .int (-1), .int 0, .int 0, .int 0, .ref a19, .int 0, .int 0, .int 0, .ref a23, .ref a24, .ref a25, .ref a26, .ref a27, .ref a28, .ref a29, .ref a30, .ref a31, .ref a32, .ref a33, .ref a34, .int 0, .int 0, .ref a37, .ref a38, .ref a39, .ref a40, .ref a41, .int 0, .ref a43, .ref a44, .ref a45, .ref a46, .ref a47, .int 0, .int 0, .int 0, .int 0, .ref a52, .ref a53, .int 0, .int 0, .ref a56, .ref a57, .int 0, .ref a59, .ref a60, .ref a61]))] sz)) (va_Qi (fun (r : Int32) (_ : Unit) => r = f_X9_isWide p0) (fun _ _ => True) (x_new sz)) 0 0 (x_new sz) := by
  refine Met.ofW (cc := cX9_isWide) (maxL := 2) (ret := (some .boolean)) (by decide) rfl ?_
  intro p e s m args below meth c s₁ B hml hv
  obtain ⟨rfl, hsz, hP, hK, hN⟩ := hv
  have hx := B.exec
  have hb := B.bytes
  have hr := B.returns
  have hts := atoms_spec (ws := wsX9_isWide) B.pre
  have hown : s.vm.findClass RX9 = some m.cls := findClass_of_methodNamed B.named
  have hlocks := B.notSynchronized
  have k_1 := hts (.constant RX9 147 (65531)) (by decide +kernel)
  have k_2 := hts (.constant RX9 142 (65535)) (by decide +kernel)
  subst hsz
  have hA : ∀ q : Nat, s.heap.size ≤ q → x_new s.heap.size q := fun _ h => h
  have hS : va_S (x_new s.heap.size) s.heap s.heap [] := va_S.rf
  have hP : va_P (dC, dI) vwCl [(h0, .inr (9, [.int 0, .int 4, .int 0, .int 0, .ref a4, .ref a5, .ref a6, .ref a7, .ref a8, .ref a9, .ref a10, .ref a11, .ref a12, .int 0, .int 0, .int (-1), .int 0, .int 0, .int 0, .ref a19, .int 0, .int 0, .int 0, .ref a23, .ref a24, .ref a25, .ref a26, .ref a27, .ref a28, .ref a29, .ref a30, .ref a31, .ref a32, .ref a33, .ref a34, .int 0, .int 0, .ref a37, .ref a38, .ref a39, .ref a40, .ref a41, .int 0, .ref a43, .ref a44, .ref a45, .ref a46, .ref a47, .int 0, .int 0, .int 0, .int 0, .ref a52, .ref a53, .int 0, .int 0, .ref a56, .ref a57, .int 0, .ref a59, .ref a60, .ref a61]))] s.heap := hP
  have hl := lv_entry ([.ref h0, .int p0]) (n := 2) (Nat.le_of_ble_eq_true rfl)
  rw [lg_entry_eq]
  generalize (lg_sl ([.ref h0, .int p0]) ++ List.replicate (2 - (lg_sl ([.ref h0, .int p0])).length) Slot.unset).toArray = ls at hl ⊢
  have hl : lv_has ls 2 [(0, .ref h0), (1, .int p0)] := hl
  obtain ⟨H, hH⟩ : ∃ z, z = s.heap := ⟨_, rfl⟩
  refine x_here hH ?_
  have hP : va_P (dC, dI) vwCl [(h0, .inr (9, [.int 0, .int 4, .int 0, .int 0, .ref a4, .ref a5, .ref a6, .ref a7, .ref a8, .ref a9, .ref a10, .ref a11, .ref a12, .int 0, .int 0, .int (-1), .int 0, .int 0, .int 0, .ref a19, .int 0, .int 0, .int 0, .ref a23, .ref a24, .ref a25, .ref a26, .ref a27, .ref a28, .ref a29, .ref a30, .ref a31, .ref a32, .ref a33, .ref a34, .int 0, .int 0, .ref a37, .ref a38, .ref a39, .ref a40, .ref a41, .int 0, .ref a43, .ref a44, .ref a45, .ref a46, .ref a47, .int 0, .int 0, .int 0, .int 0, .ref a52, .ref a53, .int 0, .int 0, .ref a56, .ref a57, .int 0, .ref a59, .ref a60, .ref a61]))] H := by rw [hH]; exact hP
  have hS : va_S (x_new s.heap.size) s.heap H [] := by rw [hH]; exact va_S.rf
  clear hH
  refine lv_iload_n hx hb dX9_isWide_0 rfl (lv_at hl 1 rfl) ?_
  refine lv_ldc (v := 65531) hx hb hown k_1 dX9_isWide_1 ?_
  refine lv_icmp_eq (tgt := 12) hx hb dX9_isWide_3 (by decide) (fun c_1 => ?_) (fun c_1 => ?_)
  · skip
    refine lv_iconst (v := 1) hx hb dX9_isWide_12 (by decide) ?_
    refine lv_goto (tgt := 17) hx hb dX9_isWide_13 (by decide) ?_
    exact W.zret (ty := .boolean) hx hb hr rfl (fun t ht hW => ⟨⟨_, (), rfl, by rw [f_X9_isWide, if_pos c_1], trivial⟩, hS.F ht⟩) hS.2.2 dX9_isWide_17
  · skip
    refine lv_iload_n hx hb dX9_isWide_6 rfl (lv_at hl 1 rfl) ?_
    refine lv_ldc (v := 65535) hx hb hown k_2 dX9_isWide_7 ?_
    refine lv_icmp_ne (tgt := 16) hx hb dX9_isWide_9 (by decide) (fun c_2 => ?_) (fun c_2 => ?_)
    · skip
      refine lv_iconst (v := 0) hx hb dX9_isWide_16 (by decide) ?_
      exact W.zret (ty := .boolean) hx hb hr rfl (fun t ht hW => ⟨⟨_, (), rfl, by rw [f_X9_isWide, if_neg c_1, if_neg c_2], trivial⟩, hS.F ht⟩) hS.2.2 dX9_isWide_17
    · skip
      refine lv_iconst (v := 1) hx hb dX9_isWide_12 (by decide) ?_
      refine lv_goto (tgt := 17) hx hb dX9_isWide_13 (by decide) ?_
      exact W.zret (ty := .boolean) hx hb hr rfl (fun t ht hW => ⟨⟨_, (), rfl, by rw [f_X9_isWide, if_neg c_1, if_pos c_2], trivial⟩, hS.F ht⟩) hS.2.2 dX9_isWide_17

theorem i_X9_bad_X9 : ∀ w ∈ wsX90, w ∈ wsX9_bad := by decide +kernel
set_option maxHeartbeats 4000000 in
set_option maxRecDepth 100000 in
theorem c_X9_bad (l : Launch) (dC : Nat → ClassId) (dI : Nat → Nat → Nat) (cyI cyZ cyJ : ClassId) (sz : Nat) (h0 : Nat) (a4 : Nat) (a5 : Nat) (a6 : Nat) (a7 : Nat) (a8 : Nat) (a9 : Nat) (a10 : Nat) (a11 : Nat) (a12 : Nat) (a19 : Nat) (a23 : Nat) (a24 : Nat) (a25 : Nat) (a26 : Nat) (a27 : Nat) (a28 : Nat) (a29 : Nat) (a30 : Nat) (a31 : Nat) (a32 : Nat) (a33 : Nat) (a34 : Nat) (a37 : Nat) (a38 : Nat) (a39 : Nat) (a40 : Nat) (a41 : Nat) (a43 : Nat) (a44 : Nat) (a45 : Nat) (a46 : Nat) (a47 : Nat) (a52 : Nat) (a53 : Nat) (a56 : Nat) (a57 : Nat) (a59 : Nat) (a60 : Nat) (a61 : Nat) : Met l yX9_bad wsX9_bad ({ frames := 0, cells := 0, slots := 0, locals := 0 }) (va_Pc [.ref h0] (x_PreD (dC, dI) (x_T cyI cyZ cyJ) [(h0, .inr (9, [.int 0, .int 4, .int 0, .int 0, .ref a4, .ref a5, .ref a6, .ref a7, .ref a8, .ref a9, .ref a10, .ref a11, .ref a12, .int 0, .int 0, .int (-1), .int 0, .int 0, .int 0, .ref a19, .int 0, .int 0, .int 0, .ref a23, .ref a24, .ref a25, .ref a26, .ref a27, .ref a28, .ref a29, .ref a30, .ref a31, .ref a32, .ref a33, .ref a34, .int 0, .int 0, .ref a37, .ref a38, .ref a39, .ref a40, .ref a41, .int 0, .ref a43, .ref a44, .ref a45, .ref a46, .ref a47, .int 0, .int 0, .int 0, .int 0, .ref a52, .ref a53, .int 0, .int 0, .ref a56, .ref a57, .int 0, .ref a59, .ref a60, .ref a61]))] sz)) (va_Qi (fun (r : Int32) (_ : Unit) => r = 0) (fun (_ : Unit) (t : State) => va_P (dC, dI) vwCl [(h0, .inr (9, [.int 1, .int 4, .int 0, .int 0, .ref a4, .ref a5, .ref a6, .ref a7, .ref a8, .ref a9, .ref a10, .ref a11, .ref a12, .int 0, .int 0, .int (-1), .int 0, .int 0, .int 0, .ref a19, .int 0, .int 0, .int 0, .ref a23, .ref a24, .ref a25, .ref a26, .ref a27, .ref a28, .ref a29, .ref a30, .ref a31, .ref a32, .ref a33, .ref a34, .int 0, .int 0, .ref a37, .ref a38, .ref a39, .ref a40, .ref a41, .int 0, .ref a43, .ref a44, .ref a45, .ref a46, .ref a47, .int 0, .int 0, .int 0, .int 0, .ref a52, .ref a53, .int 0, .int 0, .ref a56, .ref a57, .int 0, .ref a59, .ref a60, .ref a61]))] t.heap ∧ va_K (dC, dI) vwCl (x_T cyI cyZ cyJ) t ∧ va_D (va_A [(h0, .inr (9, [.int 0, .int 4, .int 0, .int 0, .ref a4, .ref a5, .ref a6, .ref a7, .ref a8, .ref a9, .ref a10, .ref a11, .ref a12, .int 0, .int 0, .int (-1), .int 0, .int 0, .int 0, .ref a19, .int 0, .int 0, .int 0, .ref a23, .ref a24, .ref a25, .ref a26, .ref a27, .ref a28, .ref a29, .ref a30, .ref a31, .ref a32, .ref a33, .ref a34, .int 0, .int 0, .ref a37, .ref a38, .ref a39, .ref a40, .ref a41, .int 0, .ref a43, .ref a44, .ref a45, .ref a46, .ref a47, .int 0, .int 0, .int 0, .int 0, .ref a52, .ref a53, .int 0, .int 0, .ref a56, .ref a57, .int 0, .ref a59, .ref a60, .ref a61]))] sz) [(h0, .inr (9, [.int 1, .int 4, .int 0, .int 0, .ref a4, .ref a5, .ref a6, .ref a7, .ref a8, .ref a9, .ref a10, .ref a11, .ref a12, .int 0, .int 0, .int (-1), .int 0, .int 0, .int 0, .ref a19, .int 0, .int 0, .int 0, .ref a23, .ref a24, .ref a25, .ref a26, .ref a27, .ref a28, .ref a29, .ref a30, .ref a31, .ref a32, .ref a33, .ref a34, .int 0, .int 0, .ref a37, .ref a38, .ref a39, .ref a40, .ref a41, .int 0, .ref a43, .ref a44, .ref a45, .ref a46, .ref a47, .int 0, .int 0, .int 0, .int 0, .ref a52, .ref a53, .int 0, .int 0, .ref a56, .ref a57, .int 0, .ref a59, .ref a60, .ref a61]))]) (va_A [(h0, .inr (9, [.int 0, .int 4, .int 0, .int 0, .ref a4, .ref a5, .ref a6, .ref a7, .ref a8, .ref a9, .ref a10, .ref a11, .ref a12, .int 0, .int 0, .int (-1), .int 0, .int 0, .int 0, .ref a19, .int 0, .int 0, .int 0, .ref a23, .ref a24, .ref a25, .ref a26, .ref a27, .ref a28, .ref a29, .ref a30, .ref a31, .ref a32, .ref a33, .ref a34, .int 0, .int 0, .ref a37, .ref a38, .ref a39, .ref a40, .ref a41, .int 0, .ref a43, .ref a44, .ref a45, .ref a46, .ref a47, .int 0, .int 0, .int 0, .int 0, .ref a52, .ref a53, .int 0, .int 0, .ref a56, .ref a57, .int 0, .ref a59, .ref a60, .ref a61]))] sz)) 0 0 (va_A [(h0, .inr (9, [.int 0, .int 4, .int 0, .int 0, .ref a4, .ref a5, .ref a6, .ref a7, .ref a8, .ref a9, .ref a10, .ref a11, .ref a12, .int 0, .int 0, .int (-1), .int 0, .int 0, .int 0, .ref a19, .int 0, .int 0, .int 0, .ref a23, .ref a24, .ref a25, .ref a26, .ref a27, .ref a28, .ref a29, .ref a30, .ref a31, .ref a32, .ref a33, .ref a34, .int 0, .int 0, .ref a37, .ref a38, .ref a39, .ref a40, .ref a41, .int 0, .ref a43, .ref a44, .ref a45, .ref a46, .ref a47, .int 0, .int 0, .int 0, .int 0, .ref a52, .ref a53, .int 0, .int 0, .ref a56, .ref a57, .int 0, .ref a59, .ref a60, .ref a61]))] sz) := by
  refine Met.ofW (cc := cX9_bad) (maxL := 1) (ret := (some .int)) (by decide) rfl ?_
  intro p e s m args below meth c s₁ B hml hv
  obtain ⟨rfl, ⟨hsz, hP, hK, hN⟩, hD0⟩ := hv
  have hx := B.exec
  have hb := B.bytes
  have hr := B.returns
  have hts := atoms_spec (ws := wsX9_bad) B.pre
  have hown : s.vm.findClass RX9 = some m.cls := findClass_of_methodNamed B.named
  have hlocks := B.notSynchronized
  have k_1 := hts (.fieldLink RX9 1 "FlowJudgeModel" "thrown" "I") (by decide +kernel)
  subst hsz
  have hD := hD0.self (sz := s.heap.size)
  generalize hAe : va_A [(h0, .inr (9, [.int 0, .int 4, .int 0, .int 0, .ref a4, .ref a5, .ref a6, .ref a7, .ref a8, .ref a9, .ref a10, .ref a11, .ref a12, .int 0, .int 0, .int (-1), .int 0, .int 0, .int 0, .ref a19, .int 0, .int 0, .int 0, .ref a23, .ref a24, .ref a25, .ref a26, .ref a27, .ref a28, .ref a29, .ref a30, .ref a31, .ref a32, .ref a33, .ref a34, .int 0, .int 0, .ref a37, .ref a38, .ref a39, .ref a40, .ref a41, .int 0, .ref a43, .ref a44, .ref a45, .ref a46, .ref a47, .int 0, .int 0, .int 0, .int 0, .ref a52, .ref a53, .int 0, .int 0, .ref a56, .ref a57, .int 0, .ref a59, .ref a60, .ref a61]))] s.heap.size = A at hD ⊢
  have hA : ∀ q : Nat, s.heap.size ≤ q → A q := fun q h => by rw [← hAe]; exact Or.inr h
  have hS : va_S A s.heap s.heap [] := va_S.rf
  have hP : va_P (dC, dI) vwCl [(h0, .inr (9, [.int 0, .int 4, .int 0, .int 0, .ref a4, .ref a5, .ref a6, .ref a7, .ref a8, .ref a9, .ref a10, .ref a11, .ref a12, .int 0, .int 0, .int (-1), .int 0, .int 0, .int 0, .ref a19, .int 0, .int 0, .int 0, .ref a23, .ref a24, .ref a25, .ref a26, .ref a27, .ref a28, .ref a29, .ref a30, .ref a31, .ref a32, .ref a33, .ref a34, .int 0, .int 0, .ref a37, .ref a38, .ref a39, .ref a40, .ref a41, .int 0, .ref a43, .ref a44, .ref a45, .ref a46, .ref a47, .int 0, .int 0, .int 0, .int 0, .ref a52, .ref a53, .int 0, .int 0, .ref a56, .ref a57, .int 0, .ref a59, .ref a60, .ref a61]))] s.heap := hP
  have hl := lv_entry ([.ref h0]) (n := 1) (Nat.le_of_ble_eq_true rfl)
  rw [lg_entry_eq]
  generalize (lg_sl ([.ref h0]) ++ List.replicate (1 - (lg_sl ([.ref h0])).length) Slot.unset).toArray = ls at hl ⊢
  have hl : lv_has ls 1 [(0, .ref h0)] := hl
  obtain ⟨H, hH⟩ : ∃ z, z = s.heap := ⟨_, rfl⟩
  refine x_here hH ?_
  have hP : va_P (dC, dI) vwCl [(h0, .inr (9, [.int 0, .int 4, .int 0, .int 0, .ref a4, .ref a5, .ref a6, .ref a7, .ref a8, .ref a9, .ref a10, .ref a11, .ref a12, .int 0, .int 0, .int (-1), .int 0, .int 0, .int 0, .ref a19, .int 0, .int 0, .int 0, .ref a23, .ref a24, .ref a25, .ref a26, .ref a27, .ref a28, .ref a29, .ref a30, .ref a31, .ref a32, .ref a33, .ref a34, .int 0, .int 0, .ref a37, .ref a38, .ref a39, .ref a40, .ref a41, .int 0, .ref a43, .ref a44, .ref a45, .ref a46, .ref a47, .int 0, .int 0, .int 0, .int 0, .ref a52, .ref a53, .int 0, .int 0, .ref a56, .ref a57, .int 0, .ref a59, .ref a60, .ref a61]))] H := by rw [hH]; exact hP
  have hS : va_S A s.heap H [] := by rw [hH]; exact va_S.rf
  clear hH
  refine lv_aload_n hx hb dX9_bad_0 rfl (lv_at hl 0 rfl) ?_
  refine lv_iconst (v := 1) hx hb dX9_bad_1 (by decide) ?_
  refine va_put (D := (dC, dI)) (ci := 9) (v := .int 1) (ty := .int) (C := RX9) (T := TX9) (N := 62) hx hb hts i_X9_bad_X9 tyX9 tyX9_ok nmX9 hown hK hP hD hS 0 rfl rfl 0 (by decide) k_1 (fun _ h9 => h9) rfl (by decide +kernel) rfl rfl (Nat.le_of_ble_eq_true rfl) dX9_bad_2 (fun H locs hP hD hS => ?_)
  have hP : va_P (dC, dI) vwCl [(h0, .inr (9, [.int 1, .int 4, .int 0, .int 0, .ref a4, .ref a5, .ref a6, .ref a7, .ref a8, .ref a9, .ref a10, .ref a11, .ref a12, .int 0, .int 0, .int (-1), .int 0, .int 0, .int 0, .ref a19, .int 0, .int 0, .int 0, .ref a23, .ref a24, .ref a25, .ref a26, .ref a27, .ref a28, .ref a29, .ref a30, .ref a31, .ref a32, .ref a33, .ref a34, .int 0, .int 0, .ref a37, .ref a38, .ref a39, .ref a40, .ref a41, .int 0, .ref a43, .ref a44, .ref a45, .ref a46, .ref a47, .int 0, .int 0, .int 0, .int 0, .ref a52, .ref a53, .int 0, .int 0, .ref a56, .ref a57, .int 0, .ref a59, .ref a60, .ref a61]))] H := hP
  have hD : va_D A [(h0, .inr (9, [.int 1, .int 4, .int 0, .int 0, .ref a4, .ref a5, .ref a6, .ref a7, .ref a8, .ref a9, .ref a10, .ref a11, .ref a12, .int 0, .int 0, .int (-1), .int 0, .int 0, .int 0, .ref a19, .int 0, .int 0, .int 0, .ref a23, .ref a24, .ref a25, .ref a26, .ref a27, .ref a28, .ref a29, .ref a30, .ref a31, .ref a32, .ref a33, .ref a34, .int 0, .int 0, .ref a37, .ref a38, .ref a39, .ref a40, .ref a41, .int 0, .ref a43, .ref a44, .ref a45, .ref a46, .ref a47, .int 0, .int 0, .int 0, .int 0, .ref a52, .ref a53, .int 0, .int 0, .ref a56, .ref a57, .int 0, .ref a59, .ref a60, .ref a61]))] := hD
  refine lv_iconst (v := 0) hx hb dX9_bad_5 (by decide) ?_
  have hP9 := hP.sub (ws' := [(h0, .inr (9, [.int 1, .int 4, .int 0, .int 0, .ref a4, .ref a5, .ref a6, .ref a7, .ref a8, .ref a9, .ref a10, .ref a11, .ref a12, .int 0, .int 0, .int (-1), .int 0, .int 0, .int 0, .ref a19, .int 0, .int 0, .int 0, .ref a23, .ref a24, .ref a25, .ref a26, .ref a27, .ref a28, .ref a29, .ref a30, .ref a31, .ref a32, .ref a33, .ref a34, .int 0, .int 0, .ref a37, .ref a38, .ref a39, .ref a40, .ref a41, .int 0, .ref a43, .ref a44, .ref a45, .ref a46, .ref a47, .int 0, .int 0, .int 0, .int 0, .ref a52, .ref a53, .int 0, .int 0, .ref a56, .ref a57, .int 0, .ref a59, .ref a60, .ref a61]))]) [0] rfl
  have hD9 := hD.sub (ws' := [(h0, .inr (9, [.int 1, .int 4, .int 0, .int 0, .ref a4, .ref a5, .ref a6, .ref a7, .ref a8, .ref a9, .ref a10, .ref a11, .ref a12, .int 0, .int 0, .int (-1), .int 0, .int 0, .int 0, .ref a19, .int 0, .int 0, .int 0, .ref a23, .ref a24, .ref a25, .ref a26, .ref a27, .ref a28, .ref a29, .ref a30, .ref a31, .ref a32, .ref a33, .ref a34, .int 0, .int 0, .ref a37, .ref a38, .ref a39, .ref a40, .ref a41, .int 0, .ref a43, .ref a44, .ref a45, .ref a46, .ref a47, .int 0, .int 0, .int 0, .int 0, .ref a52, .ref a53, .int 0, .int 0, .ref a56, .ref a57, .int 0, .ref a59, .ref a60, .ref a61]))]) [0] (by decide) rfl
  exact W.iret hx hb hr (fun t ht hW => ⟨⟨_, (), rfl, rfl, by rw [ht]; exact hP9, va_K.moved hW.alike hK, hD9⟩, hS.F ht⟩) hS.2.2 dX9_bad_6

theorem i_X9_full_X9 : ∀ w ∈ wsX90, w ∈ wsX9_full := by decide +kernel
set_option maxHeartbeats 4000000 in
set_option maxRecDepth 100000 in
theorem c_X9_full (l : Launch) (dC : Nat → ClassId) (dI : Nat → Nat → Nat) (cyI cyZ cyJ : ClassId) (sz : Nat) (h0 : Nat) (a4 : Nat) (a5 : Nat) (a6 : Nat) (a7 : Nat) (a8 : Nat) (a9 : Nat) (a10 : Nat) (a11 : Nat) (a12 : Nat) (a19 : Nat) (a23 : Nat) (a24 : Nat) (a25 : Nat) (a26 : Nat) (a27 : Nat) (a28 : Nat) (a29 : Nat) (a30 : Nat) (a31 : Nat) (a32 : Nat) (a33 : Nat) (a34 : Nat) (a37 : Nat) (a38 : Nat) (a39 : Nat) (a40 : Nat) (a41 : Nat) (a43 : Nat) (a44 : Nat) (a45 : Nat) (a46 : Nat) (a47 : Nat) (a52 : Nat) (a53 : Nat) (a56 : Nat) (a57 : Nat) (a59 : Nat) (a60 : Nat) (a61 : Nat) : Met l yX9_full wsX9_full ({ frames := 0, cells := 0, slots := 0, locals := 0 }) (va_Pc [.ref h0] (x_PreD (dC, dI) (x_T cyI cyZ cyJ) [(h0, .inr (9, [.int 0, .int 4, .int 0, .int 0, .ref a4, .ref a5, .ref a6, .ref a7, .ref a8, .ref a9, .ref a10, .ref a11, .ref a12, .int 0, .int 0, .int (-1), .int 0, .int 0, .int 0, .ref a19, .int 0, .int 0, .int 0, .ref a23, .ref a24, .ref a25, .ref a26, .ref a27, .ref a28, .ref a29, .ref a30, .ref a31, .ref a32, .ref a33, .ref a34, .int 0, .int 0, .ref a37, .ref a38, .ref a39, .ref a40, .ref a41, .int 0, .ref a43, .ref a44, .ref a45, .ref a46, .ref a47, .int 0, .int 0, .int 0, .int 0, .ref a52, .ref a53, .int 0, .int 0, .ref a56, .ref a57, .int 0, .ref a59, .ref a60, .ref a61]))] sz)) (va_Qi (fun (r : Int32) (_ : Unit) => r = 0) (fun (_ : Unit) (t : State) => va_P (dC, dI) vwCl [(h0, .inr (9, [.int 2, .int 4, .int 0, .int 0, .ref a4, .ref a5, .ref a6, .ref a7, .ref a8, .ref a9, .ref a10, .ref a11, .ref a12, .int 0, .int 0, .int (-1), .int 0, .int 0, .int 0, .ref a19, .int 0, .int 0, .int 0, .ref a23, .ref a24, .ref a25, .ref a26, .ref a27, .ref a28, .ref a29, .ref a30, .ref a31, .ref a32, .ref a33, .ref a34, .int 0, .int 0, .ref a37, .ref a38, .ref a39, .ref a40, .ref a41, .int 0, .ref a43, .ref a44, .ref a45, .ref a46, .ref a47, .int 0, .int 0, .int 0, .int 0, .ref a52, .ref a53, .int 0, .int 0, .ref a56, .ref a57, .int 0, .ref a59, .ref a60, .ref a61]))] t.heap ∧ va_K (dC, dI) vwCl (x_T cyI cyZ cyJ) t ∧ va_D (va_A [(h0, .inr (9, [.int 0, .int 4, .int 0, .int 0, .ref a4, .ref a5, .ref a6, .ref a7, .ref a8, .ref a9, .ref a10, .ref a11, .ref a12, .int 0, .int 0, .int (-1), .int 0, .int 0, .int 0, .ref a19, .int 0, .int 0, .int 0, .ref a23, .ref a24, .ref a25, .ref a26, .ref a27, .ref a28, .ref a29, .ref a30, .ref a31, .ref a32, .ref a33, .ref a34, .int 0, .int 0, .ref a37, .ref a38, .ref a39, .ref a40, .ref a41, .int 0, .ref a43, .ref a44, .ref a45, .ref a46, .ref a47, .int 0, .int 0, .int 0, .int 0, .ref a52, .ref a53, .int 0, .int 0, .ref a56, .ref a57, .int 0, .ref a59, .ref a60, .ref a61]))] sz) [(h0, .inr (9, [.int 2, .int 4, .int 0, .int 0, .ref a4, .ref a5, .ref a6, .ref a7, .ref a8, .ref a9, .ref a10, .ref a11, .ref a12, .int 0, .int 0, .int (-1), .int 0, .int 0, .int 0, .ref a19, .int 0, .int 0, .int 0, .ref a23, .ref a24, .ref a25, .ref a26, .ref a27, .ref a28, .ref a29, .ref a30, .ref a31, .ref a32, .ref a33, .ref a34, .int 0, .int 0, .ref a37, .ref a38, .ref a39, .ref a40, .ref a41, .int 0, .ref a43, .ref a44, .ref a45, .ref a46, .ref a47, .int 0, .int 0, .int 0, .int 0, .ref a52, .ref a53, .int 0, .int 0, .ref a56, .ref a57, .int 0, .ref a59, .ref a60, .ref a61]))]) (va_A [(h0, .inr (9, [.int 0, .int 4, .int 0, .int 0, .ref a4, .ref a5, .ref a6, .ref a7, .ref a8, .ref a9, .ref a10, .ref a11, .ref a12, .int 0, .int 0, .int (-1), .int 0, .int 0, .int 0, .ref a19, .int 0, .int 0, .int 0, .ref a23, .ref a24, .ref a25, .ref a26, .ref a27, .ref a28, .ref a29, .ref a30, .ref a31, .ref a32, .ref a33, .ref a34, .int 0, .int 0, .ref a37, .ref a38, .ref a39, .ref a40, .ref a41, .int 0, .ref a43, .ref a44, .ref a45, .ref a46, .ref a47, .int 0, .int 0, .int 0, .int 0, .ref a52, .ref a53, .int 0, .int 0, .ref a56, .ref a57, .int 0, .ref a59, .ref a60, .ref a61]))] sz)) 0 0 (va_A [(h0, .inr (9, [.int 0, .int 4, .int 0, .int 0, .ref a4, .ref a5, .ref a6, .ref a7, .ref a8, .ref a9, .ref a10, .ref a11, .ref a12, .int 0, .int 0, .int (-1), .int 0, .int 0, .int 0, .ref a19, .int 0, .int 0, .int 0, .ref a23, .ref a24, .ref a25, .ref a26, .ref a27, .ref a28, .ref a29, .ref a30, .ref a31, .ref a32, .ref a33, .ref a34, .int 0, .int 0, .ref a37, .ref a38, .ref a39, .ref a40, .ref a41, .int 0, .ref a43, .ref a44, .ref a45, .ref a46, .ref a47, .int 0, .int 0, .int 0, .int 0, .ref a52, .ref a53, .int 0, .int 0, .ref a56, .ref a57, .int 0, .ref a59, .ref a60, .ref a61]))] sz) := by
  refine Met.ofW (cc := cX9_full) (maxL := 1) (ret := (some .int)) (by decide) rfl ?_
  intro p e s m args below meth c s₁ B hml hv
  obtain ⟨rfl, ⟨hsz, hP, hK, hN⟩, hD0⟩ := hv
  have hx := B.exec
  have hb := B.bytes
  have hr := B.returns
  have hts := atoms_spec (ws := wsX9_full) B.pre
  have hown : s.vm.findClass RX9 = some m.cls := findClass_of_methodNamed B.named
  have hlocks := B.notSynchronized
  have k_1 := hts (.fieldLink RX9 1 "FlowJudgeModel" "thrown" "I") (by decide +kernel)
  subst hsz
  have hD := hD0.self (sz := s.heap.size)
  generalize hAe : va_A [(h0, .inr (9, [.int 0, .int 4, .int 0, .int 0, .ref a4, .ref a5, .ref a6, .ref a7, .ref a8, .ref a9, .ref a10, .ref a11, .ref a12, .int 0, .int 0, .int (-1), .int 0, .int 0, .int 0, .ref a19, .int 0, .int 0, .int 0, .ref a23, .ref a24, .ref a25, .ref a26, .ref a27, .ref a28, .ref a29, .ref a30, .ref a31, .ref a32, .ref a33, .ref a34, .int 0, .int 0, .ref a37, .ref a38, .ref a39, .ref a40, .ref a41, .int 0, .ref a43, .ref a44, .ref a45, .ref a46, .ref a47, .int 0, .int 0, .int 0, .int 0, .ref a52, .ref a53, .int 0, .int 0, .ref a56, .ref a57, .int 0, .ref a59, .ref a60, .ref a61]))] s.heap.size = A at hD ⊢
  have hA : ∀ q : Nat, s.heap.size ≤ q → A q := fun q h => by rw [← hAe]; exact Or.inr h
  have hS : va_S A s.heap s.heap [] := va_S.rf
  have hP : va_P (dC, dI) vwCl [(h0, .inr (9, [.int 0, .int 4, .int 0, .int 0, .ref a4, .ref a5, .ref a6, .ref a7, .ref a8, .ref a9, .ref a10, .ref a11, .ref a12, .int 0, .int 0, .int (-1), .int 0, .int 0, .int 0, .ref a19, .int 0, .int 0, .int 0, .ref a23, .ref a24, .ref a25, .ref a26, .ref a27, .ref a28, .ref a29, .ref a30, .ref a31, .ref a32, .ref a33, .ref a34, .int 0, .int 0, .ref a37, .ref a38, .ref a39, .ref a40, .ref a41, .int 0, .ref a43, .ref a44, .ref a45, .ref a46, .ref a47, .int 0, .int 0, .int 0, .int 0, .ref a52, .ref a53, .int 0, .int 0, .ref a56, .ref a57, .int 0, .ref a59, .ref a60, .ref a61]))] s.heap := hP
  have hl := lv_entry ([.ref h0]) (n := 1) (Nat.le_of_ble_eq_true rfl)
  rw [lg_entry_eq]
  generalize (lg_sl ([.ref h0]) ++ List.replicate (1 - (lg_sl ([.ref h0])).length) Slot.unset).toArray = ls at hl ⊢
  have hl : lv_has ls 1 [(0, .ref h0)] := hl
  obtain ⟨H, hH⟩ : ∃ z, z = s.heap := ⟨_, rfl⟩
  refine x_here hH ?_
  have hP : va_P (dC, dI) vwCl [(h0, .inr (9, [.int 0, .int 4, .int 0, .int 0, .ref a4, .ref a5, .ref a6, .ref a7, .ref a8, .ref a9, .ref a10, .ref a11, .ref a12, .int 0, .int 0, .int (-1), .int 0, .int 0, .int 0, .ref a19, .int 0, .int 0, .int 0, .ref a23, .ref a24, .ref a25, .ref a26, .ref a27, .ref a28, .ref a29, .ref a30, .ref a31, .ref a32, .ref a33, .ref a34, .int 0, .int 0, .ref a37, .ref a38, .ref a39, .ref a40, .ref a41, .int 0, .ref a43, .ref a44, .ref a45, .ref a46, .ref a47, .int 0, .int 0, .int 0, .int 0, .ref a52, .ref a53, .int 0, .int 0, .ref a56, .ref a57, .int 0, .ref a59, .ref a60, .ref a61]))] H := by rw [hH]; exact hP
  have hS : va_S A s.heap H [] := by rw [hH]; exact va_S.rf
  clear hH
  refine lv_aload_n hx hb dX9_full_0 rfl (lv_at hl 0 rfl) ?_
  refine lv_iconst (v := 2) hx hb dX9_full_1 (by decide) ?_
  refine va_put (D := (dC, dI)) (ci := 9) (v := .int 2) (ty := .int) (C := RX9) (T := TX9) (N := 62) hx hb hts i_X9_full_X9 tyX9 tyX9_ok nmX9 hown hK hP hD hS 0 rfl rfl 0 (by decide) k_1 (fun _ h9 => h9) rfl (by decide +kernel) rfl rfl (Nat.le_of_ble_eq_true rfl) dX9_full_2 (fun H locs hP hD hS => ?_)
  have hP : va_P (dC, dI) vwCl [(h0, .inr (9, [.int 2, .int 4, .int 0, .int 0, .ref a4, .ref a5, .ref a6, .ref a7, .ref a8, .ref a9, .ref a10, .ref a11, .ref a12, .int 0, .int 0, .int (-1), .int 0, .int 0, .int 0, .ref a19, .int 0, .int 0, .int 0, .ref a23, .ref a24, .ref a25, .ref a26, .ref a27, .ref a28, .ref a29, .ref a30, .ref a31, .ref a32, .ref a33, .ref a34, .int 0, .int 0, .ref a37, .ref a38, .ref a39, .ref a40, .ref a41, .int 0, .ref a43, .ref a44, .ref a45, .ref a46, .ref a47, .int 0, .int 0, .int 0, .int 0, .ref a52, .ref a53, .int 0, .int 0, .ref a56, .ref a57, .int 0, .ref a59, .ref a60, .ref a61]))] H := hP
  have hD : va_D A [(h0, .inr (9, [.int 2, .int 4, .int 0, .int 0, .ref a4, .ref a5, .ref a6, .ref a7, .ref a8, .ref a9, .ref a10, .ref a11, .ref a12, .int 0, .int 0, .int (-1), .int 0, .int 0, .int 0, .ref a19, .int 0, .int 0, .int 0, .ref a23, .ref a24, .ref a25, .ref a26, .ref a27, .ref a28, .ref a29, .ref a30, .ref a31, .ref a32, .ref a33, .ref a34, .int 0, .int 0, .ref a37, .ref a38, .ref a39, .ref a40, .ref a41, .int 0, .ref a43, .ref a44, .ref a45, .ref a46, .ref a47, .int 0, .int 0, .int 0, .int 0, .ref a52, .ref a53, .int 0, .int 0, .ref a56, .ref a57, .int 0, .ref a59, .ref a60, .ref a61]))] := hD
  refine lv_iconst (v := 0) hx hb dX9_full_5 (by decide) ?_
  have hP9 := hP.sub (ws' := [(h0, .inr (9, [.int 2, .int 4, .int 0, .int 0, .ref a4, .ref a5, .ref a6, .ref a7, .ref a8, .ref a9, .ref a10, .ref a11, .ref a12, .int 0, .int 0, .int (-1), .int 0, .int 0, .int 0, .ref a19, .int 0, .int 0, .int 0, .ref a23, .ref a24, .ref a25, .ref a26, .ref a27, .ref a28, .ref a29, .ref a30, .ref a31, .ref a32, .ref a33, .ref a34, .int 0, .int 0, .ref a37, .ref a38, .ref a39, .ref a40, .ref a41, .int 0, .ref a43, .ref a44, .ref a45, .ref a46, .ref a47, .int 0, .int 0, .int 0, .int 0, .ref a52, .ref a53, .int 0, .int 0, .ref a56, .ref a57, .int 0, .ref a59, .ref a60, .ref a61]))]) [0] rfl
  have hD9 := hD.sub (ws' := [(h0, .inr (9, [.int 2, .int 4, .int 0, .int 0, .ref a4, .ref a5, .ref a6, .ref a7, .ref a8, .ref a9, .ref a10, .ref a11, .ref a12, .int 0, .int 0, .int (-1), .int 0, .int 0, .int 0, .ref a19, .int 0, .int 0, .int 0, .ref a23, .ref a24, .ref a25, .ref a26, .ref a27, .ref a28, .ref a29, .ref a30, .ref a31, .ref a32, .ref a33, .ref a34, .int 0, .int 0, .ref a37, .ref a38, .ref a39, .ref a40, .ref a41, .int 0, .ref a43, .ref a44, .ref a45, .ref a46, .ref a47, .int 0, .int 0, .int 0, .int 0, .ref a52, .ref a53, .int 0, .int 0, .ref a56, .ref a57, .int 0, .ref a59, .ref a60, .ref a61]))]) [0] (by decide) rfl
  exact W.iret hx hb hr (fun t ht hW => ⟨⟨_, (), rfl, rfl, by rw [ht]; exact hP9, va_K.moved hW.alike hK, hD9⟩, hS.F ht⟩) hS.2.2 dX9_full_6

def f_X9_below (p0 : Int32) (p1 : Int32) : Int32 := if p0 = p1 then 1 else if p0 = (0 : Int32) then 0 else if (0 : Int32) = p1 then 1 else 0
theorem b_X9_below (p0 : Int32) (p1 : Int32) : x_nb (f_X9_below p0 p1) := (x_ite rfl (x_ite rfl (x_ite rfl rfl)))
theorem i_X9_below_X9 : ∀ w ∈ wsX90, w ∈ wsX9_below := by decide +kernel
set_option maxHeartbeats 4000000 in
set_option maxRecDepth 100000 in
theorem c_X9_below (l : Launch) (dC : Nat → ClassId) (dI : Nat → Nat → Nat) (cyI cyZ cyJ : ClassId) (sz : Nat) (h0 : Nat) (a4 : Nat) (a5 : Nat) (a6 : Nat) (a7 : Nat) (a8 : Nat) (a9 : Nat) (a10 : Nat) (a11 : Nat) (a12 : Nat) (a19 : Nat) (a23 : Nat) (a24 : Nat) (a25 : Nat) (a26 : Nat) (a27 : Nat) (a28 : Nat) (a29 : Nat) (a30 : Nat) (a31 : Nat) (a32 : Nat) (a33 : Nat) (a34 : Nat) (a37 : Nat) (a38 : Nat) (a39 : Nat) (a40 : Nat) (a41 : Nat) (a43 : Nat) (a44 : Nat) (a45 : Nat) (a46 : Nat) (a47 : Nat) (a52 : Nat) (a53 : Nat) (a56 : Nat) (a57 : Nat) (a59 : Nat) (a60 : Nat) (a61 : Nat) (p0 : Int32) (p1 : Int32) (hc0 : 0 ≤ p0) (hc4 : p0 < 4) : Met l yX9_below wsX9_below ({ frames := 0, cells := 0, slots := 0, locals := 0 }) (va_Pc [.ref h0, .int p0, .int p1] (x_Pre (dC, dI) (x_T cyI cyZ cyJ) [(h0, .inr (9, [.int 0, .int 4, .int 0, .int 0, .ref a4, .ref a5, .ref a6, .ref a7, .ref a8, .ref a9, .ref a10, .ref a11, .ref a12, .int 0, .int 0, .int (-1), .int 0, .int 0, .int 0, .ref a19, .int 0, .int 0, .int 0, .ref a23, .ref a24, .ref a25, .ref a26, .ref a27, .ref a28, .ref a29, .ref a30, .ref a31, .ref a32, .ref a33, .ref a34, .int 0, .int 0, .ref a37, .ref a38, .ref a39, .ref a40, .ref a41, .int 0, .ref a43, .ref a44, .ref a45, .ref a46, .ref a47, .int 0, .int 0, .int 0, .int 0, .ref a52, .ref a53, .int 0, .int 0, .ref a56, .ref a57, .int 0, .ref a59, .ref a60, .ref a61])), (a4, .inl (cyI, 200, .inl x_up9))] sz)) (va_Qi (fun (r : Int32) (_ : Unit) => r = f_X9_below p0 p1) (fun _ _ => True) (x_new sz)) 0 0 (x_new sz) := by
  refine Met.ofW (cc := cX9_below) (maxL := 4) (ret := (some .boolean)) (by decide) rfl ?_
  intro p e s m args below meth c s₁ B hml hv
  obtain ⟨rfl, hsz, hP, hK, hN⟩ := hv
  have hx := B.exec
  have hb := B.bytes
  have hr := B.returns
  have hts := atoms_spec (ws := wsX9_below) B.pre
  have hown : s.vm.findClass RX9 = some m.cls := findClass_of_methodNamed B.named
  have hlocks := B.notSynchronized
  have k_1 := hts (.fieldLink RX9 16 "FlowJudgeModel" "up" "[I") (by decide +kernel)
  subst hsz
  have hA : ∀ q : Nat, s.heap.size ≤ q → x_new s.heap.size q := fun _ h => h
  have hS : va_S (x_new s.heap.size) s.heap s.heap [] := va_S.rf
  have hP : va_P (dC, dI) vwCl [(h0, .inr (9, [.int 0, .int 4, .int 0, .int 0, .ref a4, .ref a5, .ref a6, .ref a7, .ref a8, .ref a9, .ref a10, .ref a11, .ref a12, .int 0, .int 0, .int (-1), .int 0, .int 0, .int 0, .ref a19, .int 0, .int 0, .int 0, .ref a23, .ref a24, .ref a25, .ref a26, .ref a27, .ref a28, .ref a29, .ref a30, .ref a31, .ref a32, .ref a33, .ref a34, .int 0, .int 0, .ref a37, .ref a38, .ref a39, .ref a40, .ref a41, .int 0, .ref a43, .ref a44, .ref a45, .ref a46, .ref a47, .int 0, .int 0, .int 0, .int 0, .ref a52, .ref a53, .int 0, .int 0, .ref a56, .ref a57, .int 0, .ref a59, .ref a60, .ref a61])), (a4, .inl (cyI, 200, .inl x_up9))] s.heap := hP
  have hl := lv_entry ([.ref h0, .int p0, .int p1]) (n := 4) (Nat.le_of_ble_eq_true rfl)
  rw [lg_entry_eq]
  generalize (lg_sl ([.ref h0, .int p0, .int p1]) ++ List.replicate (4 - (lg_sl ([.ref h0, .int p0, .int p1])).length) Slot.unset).toArray = ls at hl ⊢
  have hl : lv_has ls 4 [(0, .ref h0), (1, .int p0), (2, .int p1)] := hl
  obtain ⟨H, hH⟩ : ∃ z, z = s.heap := ⟨_, rfl⟩
  refine x_here hH ?_
  have hP : va_P (dC, dI) vwCl [(h0, .inr (9, [.int 0, .int 4, .int 0, .int 0, .ref a4, .ref a5, .ref a6, .ref a7, .ref a8, .ref a9, .ref a10, .ref a11, .ref a12, .int 0, .int 0, .int (-1), .int 0, .int 0, .int 0, .ref a19, .int 0, .int 0, .int 0, .ref a23, .ref a24, .ref a25, .ref a26, .ref a27, .ref a28, .ref a29, .ref a30, .ref a31, .ref a32, .ref a33, .ref a34, .int 0, .int 0, .ref a37, .ref a38, .ref a39, .ref a40, .ref a41, .int 0, .ref a43, .ref a44, .ref a45, .ref a46, .ref a47, .int 0, .int 0, .int 0, .int 0, .ref a52, .ref a53, .int 0, .int 0, .ref a56, .ref a57, .int 0, .ref a59, .ref a60, .ref a61])), (a4, .inl (cyI, 200, .inl x_up9))] H := by rw [hH]; exact hP
  have hS : va_S (x_new s.heap.size) s.heap H [] := by rw [hH]; exact va_S.rf
  clear hH
  refine lv_iload_n hx hb dX9_below_0 rfl (lv_at hl 1 rfl) ?_
  refine lv_istore_n (lv' := [(3, .int p0), (0, .ref h0), (1, .int p0), (2, .int p1)]) hx hb dX9_below_1 rfl hl (by decide) rfl (fun ls hl => ?_)
  refine lv_iload_n hx hb dX9_below_2 rfl (lv_at hl 0 rfl) ?_
  refine lv_if_lt (tgt := 23) hx hb dX9_below_3 (by decide) (fun c_1 => ?_) (fun c_1 => ?_)
  · exact absurd c_1 (x_nlt hc0)
  · skip
    refine lv_iload_n hx hb dX9_below_6 rfl (lv_at hl 0 rfl) ?_
    refine lv_iload_n hx hb dX9_below_7 rfl (lv_at hl 3 rfl) ?_
    refine lv_icmp_ne (tgt := 13) hx hb dX9_below_8 (by decide) (fun c_2 => ?_) (fun c_2 => ?_)
    · skip
      refine lv_aload_n hx hb dX9_below_13 rfl (lv_at hl 1 rfl) ?_
      refine va_get (D := (dC, dI)) (ci := 9) (v := .ref a4) (C := RX9) (T := TX9) (N := 62) hx hb hts i_X9_below_X9 hown hK hP 0 rfl rfl 4 (by decide) k_1 (fun _ h9 => h9) rfl dX9_below_14 ?_
      refine lv_iload_n hx hb dX9_below_17 rfl (lv_at hl 0 rfl) ?_
      refine va_iald hx hb hK hP 1 0 rfl rfl (x_in4L (by first | exact hc0 | decide) (by first | exact hc4 | decide)) dX9_below_18 ?_
      refine lv_topi (fun z_3 ez_3 => ?_)
      rcases Classical.em (p0 = 0) with c_3 | c_3
      · obtain rfl : z_3 = (-1) := ez_3.trans (by rw [c_3]; decide)
        refine lv_istore_n (lv' := [(3, .int (-1)), (0, .ref h0), (1, .int p0), (2, .int p1)]) hx hb dX9_below_19 rfl hl (by decide) rfl (fun ls hl => ?_)
        refine lv_goto (tgt := 2) hx hb dX9_below_20 (by decide) ?_
        refine lv_iload_n hx hb dX9_below_2 rfl (lv_at hl 0 rfl) ?_
        refine lv_if_lt (tgt := 23) hx hb dX9_below_3 (by decide) (fun _ => ?_) (fun c_4 => absurd (by decide) c_4)
        refine lv_iconst (v := 0) hx hb dX9_below_23 (by decide) ?_
        exact W.zret (ty := .boolean) hx hb hr rfl (fun t ht hW => ⟨⟨_, (), rfl, by rw [f_X9_below, if_neg c_2, if_pos c_3], trivial⟩, hS.F ht⟩) hS.2.2 dX9_below_24
      obtain rfl : z_3 = 0 := ez_3.trans (x_up9n (x_in4L (by first | exact hc0 | decide) (by first | exact hc4 | decide)) c_3)
      refine lv_istore_n (lv' := [(3, .int 0), (0, .ref h0), (1, .int p0), (2, .int p1)]) hx hb dX9_below_19 rfl hl (by decide) rfl (fun ls hl => ?_)
      refine lv_goto (tgt := 2) hx hb dX9_below_20 (by decide) ?_
      refine lv_iload_n hx hb dX9_below_2 rfl (lv_at hl 0 rfl) ?_
      refine lv_if_lt (tgt := 23) hx hb dX9_below_3 (by decide) (fun c_5 => absurd c_5 (by decide)) (fun _ => ?_)
      refine lv_iload_n hx hb dX9_below_6 rfl (lv_at hl 0 rfl) ?_
      refine lv_iload_n hx hb dX9_below_7 rfl (lv_at hl 3 rfl) ?_
      refine lv_icmp_ne (tgt := 13) hx hb dX9_below_8 (by decide) (fun c_6 => ?_) (fun c_6 => ?_)
      · skip
        refine lv_aload_n hx hb dX9_below_13 rfl (lv_at hl 1 rfl) ?_
        refine va_get (D := (dC, dI)) (ci := 9) (v := .ref a4) (C := RX9) (T := TX9) (N := 62) hx hb hts i_X9_below_X9 hown hK hP 0 rfl rfl 4 (by decide) k_1 (fun _ h9 => h9) rfl dX9_below_14 ?_
        refine lv_iload_n hx hb dX9_below_17 rfl (lv_at hl 0 rfl) ?_
        refine va_iald hx hb hK hP 1 0 rfl rfl (x_in4L (by first | exact hc0 | decide) (by first | exact hc4 | decide)) dX9_below_18 ?_
        refine lv_topi (fun z_7 ez_7 => ?_)
        obtain rfl : z_7 = (-1) := ez_7.trans (by decide)
        refine lv_istore_n (lv' := [(3, .int (-1)), (0, .ref h0), (1, .int p0), (2, .int p1)]) hx hb dX9_below_19 rfl hl (by decide) rfl (fun ls hl => ?_)
        refine lv_goto (tgt := 2) hx hb dX9_below_20 (by decide) ?_
        refine lv_iload_n hx hb dX9_below_2 rfl (lv_at hl 0 rfl) ?_
        refine lv_if_lt (tgt := 23) hx hb dX9_below_3 (by decide) (fun _ => ?_) (fun c_8 => absurd (by decide) c_8)
        refine lv_iconst (v := 0) hx hb dX9_below_23 (by decide) ?_
        exact W.zret (ty := .boolean) hx hb hr rfl (fun t ht hW => ⟨⟨_, (), rfl, by rw [f_X9_below, if_neg c_2, if_neg c_3, if_neg c_6], trivial⟩, hS.F ht⟩) hS.2.2 dX9_below_24
      · skip
        refine lv_iconst (v := 1) hx hb dX9_below_11 (by decide) ?_
        exact W.zret (ty := .boolean) hx hb hr rfl (fun t ht hW => ⟨⟨_, (), rfl, by rw [f_X9_below, if_neg c_2, if_neg c_3, if_pos c_6], trivial⟩, hS.F ht⟩) hS.2.2 dX9_below_12
    · skip
      refine lv_iconst (v := 1) hx hb dX9_below_11 (by decide) ?_
      exact W.zret (ty := .boolean) hx hb hr rfl (fun t ht hW => ⟨⟨_, (), rfl, by rw [f_X9_below, if_pos c_2], trivial⟩, hS.F ht⟩) hS.2.2 dX9_below_12
