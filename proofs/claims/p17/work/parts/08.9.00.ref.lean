def f_X9_isClass (v9_1 : Int32) (p1 : Int32) : Option (Int32) := if p1 < (0 : Int32) then some 0 else if v9_1 ≤ p1 then some 0 else some 1
theorem i_X9_isClass_X9 : ∀ w ∈ wsX90, w ∈ wsX9_isClass := fun _ h => List.mem_cons_of_mem _ (List.mem_append_right _ h)
set_option maxHeartbeats 4000000 in
set_option maxRecDepth 100000 in
theorem c_X9_isClass (l : Launch) (dC : Nat → ClassId) (dI : Nat → Nat → Nat) (cyI cyZ cyJ : ClassId) (sz : Nat) (o9 : Nat) (v9_0 : Int32) (v9_1 : Int32) (v9_2 : Int32) (v9_3 : Int32) (a9_4 : Nat) (a9_5 : Nat) (a9_6 : Nat) (a9_7 : Nat) (a9_8 : Nat) (a9_9 : Nat) (a9_10 : Nat) (a9_11 : Nat) (a9_12 : Nat) (v9_13 : Int32) (v9_14 : Int32) (v9_15 : Int32) (v9_16 : Int32) (v9_17 : Int32) (v9_18 : Int32) (a9_19 : Nat) (v9_20 : Int32) (v9_21 : Int32) (v9_22 : Int32) (a9_23 : Nat) (a9_24 : Nat) (a9_25 : Nat) (a9_26 : Nat) (a9_27 : Nat) (a9_28 : Nat) (a9_29 : Nat) (a9_30 : Nat) (a9_31 : Nat) (a9_32 : Nat) (a9_33 : Nat) (a9_34 : Nat) (v9_35 : Int32) (v9_36 : Int32) (a9_37 : Nat) (a9_38 : Nat) (a9_39 : Nat) (a9_40 : Nat) (a9_41 : Nat) (v9_42 : Int32) (a9_43 : Nat) (a9_44 : Nat) (a9_45 : Nat) (a9_46 : Nat) (a9_47 : Nat) (v9_48 : Int32) (v9_49 : Int32) (v9_50 : Int32) (v9_51 : Int32) (a9_52 : Nat) (a9_53 : Nat) (v9_54 : Int32) (v9_55 : Int32) (a9_56 : Nat) (a9_57 : Nat) (v9_58 : Int32) (a9_59 : Nat) (a9_60 : Nat) (a9_61 : Nat) (p1 : Int32) (R : Int32) (hf : f_X9_isClass v9_1 p1 = some R) : Met l yX9_isClass wsX9_isClass ({ frames := 0, cells := 0, slots := 0, locals := 0 }) (va_Pc [.ref o9, .int p1] (x_Pre (dC, dI) (x_T cyI cyZ cyJ) [(o9, .inr (9, x_O9 v9_0 v9_1 v9_2 v9_3 a9_4 a9_5 a9_6 a9_7 a9_8 a9_9 a9_10 a9_11 a9_12 v9_13 v9_14 v9_15 v9_16 v9_17 v9_18 a9_19 v9_20 v9_21 v9_22 a9_23 a9_24 a9_25 a9_26 a9_27 a9_28 a9_29 a9_30 a9_31 a9_32 a9_33 a9_34 v9_35 v9_36 a9_37 a9_38 a9_39 a9_40 a9_41 v9_42 a9_43 a9_44 a9_45 a9_46 a9_47 v9_48 v9_49 v9_50 v9_51 a9_52 a9_53 v9_54 v9_55 a9_56 a9_57 v9_58 a9_59 a9_60 a9_61))] sz)) (va_Qi (fun (r : Int32) (_ : Unit) => r = R ∧ x_nb r) (fun _ _ => True) (x_new sz)) 0 0 (x_new sz) := by
  refine Met.ofW (cc := cX9_isClass) (maxL := 2) (ret := (some .boolean)) (by decide) rfl ?_
  intro p e s m args below meth c s₁ B hml hv
  obtain ⟨rfl, hsz, hP, hK, hN⟩ := hv
  have hx := B.exec
  have hb := B.bytes
  have hr := B.returns
  have hts := atoms_spec (ws := wsX9_isClass) B.pre
  have hown : s.vm.findClass RX9 = some m.cls := findClass_of_methodNamed B.named
  have k_1 := hts (.fieldLink RX9 13 "FlowJudgeModel" "classes" "I") (by decide +kernel)
  subst hsz
  have hA : ∀ q : Nat, s.heap.size ≤ q → x_new s.heap.size q := fun _ h => h
  have hS : va_S (x_new s.heap.size) s.heap s.heap [] := va_S.rf
  have hP : va_P (dC, dI) vwCl [(o9, .inr (9, x_O9 v9_0 v9_1 v9_2 v9_3 a9_4 a9_5 a9_6 a9_7 a9_8 a9_9 a9_10 a9_11 a9_12 v9_13 v9_14 v9_15 v9_16 v9_17 v9_18 a9_19 v9_20 v9_21 v9_22 a9_23 a9_24 a9_25 a9_26 a9_27 a9_28 a9_29 a9_30 a9_31 a9_32 a9_33 a9_34 v9_35 v9_36 a9_37 a9_38 a9_39 a9_40 a9_41 v9_42 a9_43 a9_44 a9_45 a9_46 a9_47 v9_48 v9_49 v9_50 v9_51 a9_52 a9_53 v9_54 v9_55 a9_56 a9_57 v9_58 a9_59 a9_60 a9_61))] s.heap := hP
  have hl := lv_entry ([.ref o9, .int p1]) (n := 2) (Nat.le_of_ble_eq_true rfl)
  rw [lg_entry_eq]
  generalize (lg_sl ([.ref o9, .int p1]) ++ List.replicate (2 - (lg_sl ([.ref o9, .int p1])).length) Slot.unset).toArray = ls at hl ⊢
  have hl : lv_has ls 2 [(0, .ref o9), (1, .int p1)] := hl
  obtain ⟨H, hH⟩ : ∃ z, z = s.heap := ⟨_, rfl⟩
  refine x_here hH ?_
  have hP : va_P (dC, dI) vwCl [(o9, .inr (9, x_O9 v9_0 v9_1 v9_2 v9_3 a9_4 a9_5 a9_6 a9_7 a9_8 a9_9 a9_10 a9_11 a9_12 v9_13 v9_14 v9_15 v9_16 v9_17 v9_18 a9_19 v9_20 v9_21 v9_22 a9_23 a9_24 a9_25 a9_26 a9_27 a9_28 a9_29 a9_30 a9_31 a9_32 a9_33 a9_34 v9_35 v9_36 a9_37 a9_38 a9_39 a9_40 a9_41 v9_42 a9_43 a9_44 a9_45 a9_46 a9_47 v9_48 v9_49 v9_50 v9_51 a9_52 a9_53 v9_54 v9_55 a9_56 a9_57 v9_58 a9_59 a9_60 a9_61))] H := by rw [hH]; exact hP
  have hS : va_S (x_new s.heap.size) s.heap H [] := by rw [hH]; exact va_S.rf
  clear hH
  obtain ⟨locs, hlo⟩ : ∃ z : List Loc, z = [] := ⟨_, rfl⟩
  refine x_herl hlo ?_
  have hS : va_S (x_new s.heap.size) s.heap H locs := by rw [hlo]; exact hS
  clear hlo
  unfold f_X9_isClass at hf
  refine lv_iload_n hx hb dX9_isClass_0 rfl (lv_at hl 1 rfl) ?_
  refine lv_if_lt (tgt := 16) hx hb dX9_isClass_1 (by decide) (fun c_1 => ?_) (fun c_1 => ?_)
  · replace hf := x_ip c_1 hf
    refine lv_iconst (v := 0) hx hb dX9_isClass_16 (by decide) ?_
    obtain rfl := Option.some.inj hf
    exact W.zret (ty := .boolean) hx hb hr rfl (fun t ht hW => ⟨⟨_, (), rfl, ⟨rfl, rfl⟩, trivial⟩, hS.F ht⟩) hS.2.2 dX9_isClass_17
  · replace hf := x_in c_1 hf
    refine lv_iload_n hx hb dX9_isClass_4 rfl (lv_at hl 1 rfl) ?_
    refine lv_aload_n hx hb dX9_isClass_5 rfl (lv_at hl 0 rfl) ?_
    refine va_get (D := (dC, dI)) (ci := 9) (v := .int v9_1) (C := RX9) (T := TX9) (N := 62) hx hb hts i_X9_isClass_X9 hown hK hP 0 rfl rfl 1 (by decide) k_1 (fun _ h9 => h9) rfl dX9_isClass_6 ?_
    refine lv_icmp_ge (tgt := 16) hx hb dX9_isClass_9 (by decide) (fun c_2 => ?_) (fun c_2 => ?_)
    · replace hf := x_ip c_2 hf
      refine lv_iconst (v := 0) hx hb dX9_isClass_16 (by decide) ?_
      obtain rfl := Option.some.inj hf
      exact W.zret (ty := .boolean) hx hb hr rfl (fun t ht hW => ⟨⟨_, (), rfl, ⟨rfl, rfl⟩, trivial⟩, hS.F ht⟩) hS.2.2 dX9_isClass_17
    · replace hf := x_in c_2 hf
      refine lv_iconst (v := 1) hx hb dX9_isClass_12 (by decide) ?_
      refine lv_goto (tgt := 17) hx hb dX9_isClass_13 (by decide) ?_
      obtain rfl := Option.some.inj hf
      exact W.zret (ty := .boolean) hx hb hr rfl (fun t ht hW => ⟨⟨_, (), rfl, ⟨rfl, rfl⟩, trivial⟩, hS.F ht⟩) hS.2.2 dX9_isClass_17

def f_X9_isPrimitive (p1 : Int32) : Option (Int32) := if p1 < (65528 : Int32) then some 0 else if (65536 : Int32) ≤ p1 then some 0 else some 1
set_option maxHeartbeats 4000000 in
set_option maxRecDepth 100000 in
theorem c_X9_isPrimitive (l : Launch) (dC : Nat → ClassId) (dI : Nat → Nat → Nat) (cyI cyZ cyJ : ClassId) (sz : Nat) (o9 : Nat) (v9_0 : Int32) (v9_1 : Int32) (v9_2 : Int32) (v9_3 : Int32) (a9_4 : Nat) (a9_5 : Nat) (a9_6 : Nat) (a9_7 : Nat) (a9_8 : Nat) (a9_9 : Nat) (a9_10 : Nat) (a9_11 : Nat) (a9_12 : Nat) (v9_13 : Int32) (v9_14 : Int32) (v9_15 : Int32) (v9_16 : Int32) (v9_17 : Int32) (v9_18 : Int32) (a9_19 : Nat) (v9_20 : Int32) (v9_21 : Int32) (v9_22 : Int32) (a9_23 : Nat) (a9_24 : Nat) (a9_25 : Nat) (a9_26 : Nat) (a9_27 : Nat) (a9_28 : Nat) (a9_29 : Nat) (a9_30 : Nat) (a9_31 : Nat) (a9_32 : Nat) (a9_33 : Nat) (a9_34 : Nat) (v9_35 : Int32) (v9_36 : Int32) (a9_37 : Nat) (a9_38 : Nat) (a9_39 : Nat) (a9_40 : Nat) (a9_41 : Nat) (v9_42 : Int32) (a9_43 : Nat) (a9_44 : Nat) (a9_45 : Nat) (a9_46 : Nat) (a9_47 : Nat) (v9_48 : Int32) (v9_49 : Int32) (v9_50 : Int32) (v9_51 : Int32) (a9_52 : Nat) (a9_53 : Nat) (v9_54 : Int32) (v9_55 : Int32) (a9_56 : Nat) (a9_57 : Nat) (v9_58 : Int32) (a9_59 : Nat) (a9_60 : Nat) (a9_61 : Nat) (p1 : Int32) (R : Int32) (hf : f_X9_isPrimitive p1 = some R) : Met l yX9_isPrimitive wsX9_isPrimitive ({ frames := 0, cells := 0, slots := 0, locals := 0 }) (va_Pc [.ref o9, .int p1] (x_Pre (dC, dI) (x_T cyI cyZ cyJ) [(o9, .inr (9, x_O9 v9_0 v9_1 v9_2 v9_3 a9_4 a9_5 a9_6 a9_7 a9_8 a9_9 a9_10 a9_11 a9_12 v9_13 v9_14 v9_15 v9_16 v9_17 v9_18 a9_19 v9_20 v9_21 v9_22 a9_23 a9_24 a9_25 a9_26 a9_27 a9_28 a9_29 a9_30 a9_31 a9_32 a9_33 a9_34 v9_35 v9_36 a9_37 a9_38 a9_39 a9_40 a9_41 v9_42 a9_43 a9_44 a9_45 a9_46 a9_47 v9_48 v9_49 v9_50 v9_51 a9_52 a9_53 v9_54 v9_55 a9_56 a9_57 v9_58 a9_59 a9_60 a9_61))] sz)) (va_Qi (fun (r : Int32) (_ : Unit) => r = R ∧ x_nb r) (fun _ _ => True) (x_new sz)) 0 0 (x_new sz) := by
  refine Met.ofW (cc := cX9_isPrimitive) (maxL := 2) (ret := (some .boolean)) (by decide) rfl ?_
  intro p e s m args below meth c s₁ B hml hv
  obtain ⟨rfl, hsz, hP, hK, hN⟩ := hv
  have hx := B.exec
  have hb := B.bytes
  have hr := B.returns
  have hts := atoms_spec (ws := wsX9_isPrimitive) B.pre
  have hown : s.vm.findClass RX9 = some m.cls := findClass_of_methodNamed B.named
  have k_1 := hts (.constant RX9 140 (65528)) (by decide +kernel)
  have k_2 := hts (.constant RX9 141 (65536)) (by decide +kernel)
  subst hsz
  have hA : ∀ q : Nat, s.heap.size ≤ q → x_new s.heap.size q := fun _ h => h
  have hS : va_S (x_new s.heap.size) s.heap s.heap [] := va_S.rf
  have hP : va_P (dC, dI) vwCl [(o9, .inr (9, x_O9 v9_0 v9_1 v9_2 v9_3 a9_4 a9_5 a9_6 a9_7 a9_8 a9_9 a9_10 a9_11 a9_12 v9_13 v9_14 v9_15 v9_16 v9_17 v9_18 a9_19 v9_20 v9_21 v9_22 a9_23 a9_24 a9_25 a9_26 a9_27 a9_28 a9_29 a9_30 a9_31 a9_32 a9_33 a9_34 v9_35 v9_36 a9_37 a9_38 a9_39 a9_40 a9_41 v9_42 a9_43 a9_44 a9_45 a9_46 a9_47 v9_48 v9_49 v9_50 v9_51 a9_52 a9_53 v9_54 v9_55 a9_56 a9_57 v9_58 a9_59 a9_60 a9_61))] s.heap := hP
  have hl := lv_entry ([.ref o9, .int p1]) (n := 2) (Nat.le_of_ble_eq_true rfl)
  rw [lg_entry_eq]
  generalize (lg_sl ([.ref o9, .int p1]) ++ List.replicate (2 - (lg_sl ([.ref o9, .int p1])).length) Slot.unset).toArray = ls at hl ⊢
  have hl : lv_has ls 2 [(0, .ref o9), (1, .int p1)] := hl
  obtain ⟨H, hH⟩ : ∃ z, z = s.heap := ⟨_, rfl⟩
  refine x_here hH ?_
  have hP : va_P (dC, dI) vwCl [(o9, .inr (9, x_O9 v9_0 v9_1 v9_2 v9_3 a9_4 a9_5 a9_6 a9_7 a9_8 a9_9 a9_10 a9_11 a9_12 v9_13 v9_14 v9_15 v9_16 v9_17 v9_18 a9_19 v9_20 v9_21 v9_22 a9_23 a9_24 a9_25 a9_26 a9_27 a9_28 a9_29 a9_30 a9_31 a9_32 a9_33 a9_34 v9_35 v9_36 a9_37 a9_38 a9_39 a9_40 a9_41 v9_42 a9_43 a9_44 a9_45 a9_46 a9_47 v9_48 v9_49 v9_50 v9_51 a9_52 a9_53 v9_54 v9_55 a9_56 a9_57 v9_58 a9_59 a9_60 a9_61))] H := by rw [hH]; exact hP
  have hS : va_S (x_new s.heap.size) s.heap H [] := by rw [hH]; exact va_S.rf
  clear hH
  obtain ⟨locs, hlo⟩ : ∃ z : List Loc, z = [] := ⟨_, rfl⟩
  refine x_herl hlo ?_
  have hS : va_S (x_new s.heap.size) s.heap H locs := by rw [hlo]; exact hS
  clear hlo
  unfold f_X9_isPrimitive at hf
  refine lv_iload_n hx hb dX9_isPrimitive_0 rfl (lv_at hl 1 rfl) ?_
  refine lv_ldc (v := 65528) hx hb hown k_1 dX9_isPrimitive_1 ?_
  refine lv_icmp_lt (tgt := 16) hx hb dX9_isPrimitive_3 (by decide) (fun c_1 => ?_) (fun c_1 => ?_)
  · replace hf := x_ip c_1 hf
    refine lv_iconst (v := 0) hx hb dX9_isPrimitive_16 (by decide) ?_
    obtain rfl := Option.some.inj hf
    exact W.zret (ty := .boolean) hx hb hr rfl (fun t ht hW => ⟨⟨_, (), rfl, ⟨rfl, rfl⟩, trivial⟩, hS.F ht⟩) hS.2.2 dX9_isPrimitive_17
  · replace hf := x_in c_1 hf
    refine lv_iload_n hx hb dX9_isPrimitive_6 rfl (lv_at hl 1 rfl) ?_
    refine lv_ldc (v := 65536) hx hb hown k_2 dX9_isPrimitive_7 ?_
    refine lv_icmp_ge (tgt := 16) hx hb dX9_isPrimitive_9 (by decide) (fun c_2 => ?_) (fun c_2 => ?_)
    · replace hf := x_ip c_2 hf
      refine lv_iconst (v := 0) hx hb dX9_isPrimitive_16 (by decide) ?_
      obtain rfl := Option.some.inj hf
      exact W.zret (ty := .boolean) hx hb hr rfl (fun t ht hW => ⟨⟨_, (), rfl, ⟨rfl, rfl⟩, trivial⟩, hS.F ht⟩) hS.2.2 dX9_isPrimitive_17
    · replace hf := x_in c_2 hf
      refine lv_iconst (v := 1) hx hb dX9_isPrimitive_12 (by decide) ?_
      refine lv_goto (tgt := 17) hx hb dX9_isPrimitive_13 (by decide) ?_
      obtain rfl := Option.some.inj hf
      exact W.zret (ty := .boolean) hx hb hr rfl (fun t ht hW => ⟨⟨_, (), rfl, ⟨rfl, rfl⟩, trivial⟩, hS.F ht⟩) hS.2.2 dX9_isPrimitive_17

def f_X9_isType (v9_1 : Int32) (p1 : Int32) : Option (Int32) := if p1 < (0 : Int32) then some 0 else if (255 : Int32) < (p1 >>> (16 &&& 31)) then some 0 else (f_X9_isClass v9_1 (p1 &&& 65535)) >>= (fun r_3 => if r_3 = (0 : Int32) then if (p1 &&& 65535) < (65528 : Int32) then some 0 else some 1 else some 1)
set_option maxHeartbeats 4000000 in
set_option maxRecDepth 100000 in
theorem c_X9_isType (l : Launch) (dC : Nat → ClassId) (dI : Nat → Nat → Nat) (cyI cyZ cyJ : ClassId) (sz : Nat) (o9 : Nat) (v9_0 : Int32) (v9_1 : Int32) (v9_2 : Int32) (v9_3 : Int32) (a9_4 : Nat) (a9_5 : Nat) (a9_6 : Nat) (a9_7 : Nat) (a9_8 : Nat) (a9_9 : Nat) (a9_10 : Nat) (a9_11 : Nat) (a9_12 : Nat) (v9_13 : Int32) (v9_14 : Int32) (v9_15 : Int32) (v9_16 : Int32) (v9_17 : Int32) (v9_18 : Int32) (a9_19 : Nat) (v9_20 : Int32) (v9_21 : Int32) (v9_22 : Int32) (a9_23 : Nat) (a9_24 : Nat) (a9_25 : Nat) (a9_26 : Nat) (a9_27 : Nat) (a9_28 : Nat) (a9_29 : Nat) (a9_30 : Nat) (a9_31 : Nat) (a9_32 : Nat) (a9_33 : Nat) (a9_34 : Nat) (v9_35 : Int32) (v9_36 : Int32) (a9_37 : Nat) (a9_38 : Nat) (a9_39 : Nat) (a9_40 : Nat) (a9_41 : Nat) (v9_42 : Int32) (a9_43 : Nat) (a9_44 : Nat) (a9_45 : Nat) (a9_46 : Nat) (a9_47 : Nat) (v9_48 : Int32) (v9_49 : Int32) (v9_50 : Int32) (v9_51 : Int32) (a9_52 : Nat) (a9_53 : Nat) (v9_54 : Int32) (v9_55 : Int32) (a9_56 : Nat) (a9_57 : Nat) (v9_58 : Int32) (a9_59 : Nat) (a9_60 : Nat) (a9_61 : Nat) (p1 : Int32) (R : Int32) (hf : f_X9_isType v9_1 p1 = some R) : Met l yX9_isType wsX9_isType ({ frames := 1, cells := 0, slots := 0, locals := 21 }) (va_Pc [.ref o9, .int p1] (x_Pre (dC, dI) (x_T cyI cyZ cyJ) [(o9, .inr (9, x_O9 v9_0 v9_1 v9_2 v9_3 a9_4 a9_5 a9_6 a9_7 a9_8 a9_9 a9_10 a9_11 a9_12 v9_13 v9_14 v9_15 v9_16 v9_17 v9_18 a9_19 v9_20 v9_21 v9_22 a9_23 a9_24 a9_25 a9_26 a9_27 a9_28 a9_29 a9_30 a9_31 a9_32 a9_33 a9_34 v9_35 v9_36 a9_37 a9_38 a9_39 a9_40 a9_41 v9_42 a9_43 a9_44 a9_45 a9_46 a9_47 v9_48 v9_49 v9_50 v9_51 a9_52 a9_53 v9_54 v9_55 a9_56 a9_57 v9_58 a9_59 a9_60 a9_61))] sz)) (va_Qi (fun (r : Int32) (_ : Unit) => r = R ∧ x_nb r) (fun _ _ => True) (x_new sz)) 0 0 (x_new sz) := by
  refine Met.ofW (cc := cX9_isType) (maxL := 2) (ret := (some .boolean)) (by decide) rfl ?_
  intro p e s m args below meth c s₁ B hml hv
  obtain ⟨rfl, hsz, hP, hK, hN⟩ := hv
  have hx := B.exec
  have hb := B.bytes
  have hr := B.returns
  have hts := atoms_spec (ws := wsX9_isType) B.pre
  have hown : s.vm.findClass RX9 = some m.cls := findClass_of_methodNamed B.named
  have k_1 := hts (.constant RX9 142 (65535)) (by decide +kernel)
  have k_2 := hts (.constant RX9 140 (65528)) (by decide +kernel)
  subst hsz
  have hA : ∀ q : Nat, s.heap.size ≤ q → x_new s.heap.size q := fun _ h => h
  have hS : va_S (x_new s.heap.size) s.heap s.heap [] := va_S.rf
  have hP : va_P (dC, dI) vwCl [(o9, .inr (9, x_O9 v9_0 v9_1 v9_2 v9_3 a9_4 a9_5 a9_6 a9_7 a9_8 a9_9 a9_10 a9_11 a9_12 v9_13 v9_14 v9_15 v9_16 v9_17 v9_18 a9_19 v9_20 v9_21 v9_22 a9_23 a9_24 a9_25 a9_26 a9_27 a9_28 a9_29 a9_30 a9_31 a9_32 a9_33 a9_34 v9_35 v9_36 a9_37 a9_38 a9_39 a9_40 a9_41 v9_42 a9_43 a9_44 a9_45 a9_46 a9_47 v9_48 v9_49 v9_50 v9_51 a9_52 a9_53 v9_54 v9_55 a9_56 a9_57 v9_58 a9_59 a9_60 a9_61))] s.heap := hP
  have hl := lv_entry ([.ref o9, .int p1]) (n := 2) (Nat.le_of_ble_eq_true rfl)
  rw [lg_entry_eq]
  generalize (lg_sl ([.ref o9, .int p1]) ++ List.replicate (2 - (lg_sl ([.ref o9, .int p1])).length) Slot.unset).toArray = ls at hl ⊢
  have hl : lv_has ls 2 [(0, .ref o9), (1, .int p1)] := hl
  obtain ⟨H, hH⟩ : ∃ z, z = s.heap := ⟨_, rfl⟩
  refine x_here hH ?_
  have hP : va_P (dC, dI) vwCl [(o9, .inr (9, x_O9 v9_0 v9_1 v9_2 v9_3 a9_4 a9_5 a9_6 a9_7 a9_8 a9_9 a9_10 a9_11 a9_12 v9_13 v9_14 v9_15 v9_16 v9_17 v9_18 a9_19 v9_20 v9_21 v9_22 a9_23 a9_24 a9_25 a9_26 a9_27 a9_28 a9_29 a9_30 a9_31 a9_32 a9_33 a9_34 v9_35 v9_36 a9_37 a9_38 a9_39 a9_40 a9_41 v9_42 a9_43 a9_44 a9_45 a9_46 a9_47 v9_48 v9_49 v9_50 v9_51 a9_52 a9_53 v9_54 v9_55 a9_56 a9_57 v9_58 a9_59 a9_60 a9_61))] H := by rw [hH]; exact hP
  have hS : va_S (x_new s.heap.size) s.heap H [] := by rw [hH]; exact va_S.rf
  clear hH
  obtain ⟨locs, hlo⟩ : ∃ z : List Loc, z = [] := ⟨_, rfl⟩
  refine x_herl hlo ?_
  have hS : va_S (x_new s.heap.size) s.heap H locs := by rw [hlo]; exact hS
  clear hlo
  unfold f_X9_isType at hf
  refine lv_iload_n hx hb dX9_isType_0 rfl (lv_at hl 1 rfl) ?_
  refine lv_if_lt (tgt := 38) hx hb dX9_isType_1 (by decide) (fun c_1 => ?_) (fun c_1 => ?_)
  · replace hf := x_ip c_1 hf
    refine lv_iconst (v := 0) hx hb dX9_isType_38 (by decide) ?_
    obtain rfl := Option.some.inj hf
    exact W.zret (ty := .boolean) hx hb hr rfl (fun t ht hW => ⟨⟨_, (), rfl, ⟨rfl, rfl⟩, trivial⟩, hS.F ht⟩) hS.2.2 dX9_isType_39
  · replace hf := x_in c_1 hf
    refine lv_iload_n hx hb dX9_isType_4 rfl (lv_at hl 1 rfl) ?_
    refine lv_bipush (v := 16) hx hb dX9_isType_5 (by decide) ?_
    refine lv_ishr hx hb dX9_isType_7 ?_
    refine lv_sipush (v := 255) hx hb dX9_isType_8 (by decide) ?_
    refine lv_icmp_gt (tgt := 38) hx hb dX9_isType_11 (by decide) (fun c_2 => ?_) (fun c_2 => ?_)
    · replace hf := x_ip c_2 hf
      refine lv_iconst (v := 0) hx hb dX9_isType_38 (by decide) ?_
      obtain rfl := Option.some.inj hf
      exact W.zret (ty := .boolean) hx hb hr rfl (fun t ht hW => ⟨⟨_, (), rfl, ⟨rfl, rfl⟩, trivial⟩, hS.F ht⟩) hS.2.2 dX9_isType_39
    · replace hf := x_in c_2 hf
      refine lv_aload_n hx hb dX9_isType_14 rfl (lv_at hl 0 rfl) ?_
      refine lv_iload_n hx hb dX9_isType_15 rfl (lv_at hl 1 rfl) ?_
      refine lv_ldc (v := 65535) hx hb hown k_1 dX9_isType_16 ?_
      refine lv_iand hx hb dX9_isType_18 ?_
      obtain ⟨r_3, h_3, hf⟩ := x_bi hf
      have hPc := hP.sub (ws' := [(o9, .inr (9, x_O9 v9_0 v9_1 v9_2 v9_3 a9_4 a9_5 a9_6 a9_7 a9_8 a9_9 a9_10 a9_11 a9_12 v9_13 v9_14 v9_15 v9_16 v9_17 v9_18 a9_19 v9_20 v9_21 v9_22 a9_23 a9_24 a9_25 a9_26 a9_27 a9_28 a9_29 a9_30 a9_31 a9_32 a9_33 a9_34 v9_35 v9_36 a9_37 a9_38 a9_39 a9_40 a9_41 v9_42 a9_43 a9_44 a9_45 a9_46 a9_47 v9_48 v9_49 v9_50 v9_51 a9_52 a9_53 v9_54 v9_55 a9_56 a9_57 v9_58 a9_59 a9_60 a9_61))]) [0] rfl
      refine va_calli (va_runV (As := [.int (p1 &&& 65535)]) (rest := []) ⟨hx, hb, hml, hown, hts⟩ (c_X9_isClass l dC dI cyI cyZ cyJ H.size o9 v9_0 v9_1 v9_2 v9_3 a9_4 a9_5 a9_6 a9_7 a9_8 a9_9 a9_10 a9_11 a9_12 v9_13 v9_14 v9_15 v9_16 v9_17 v9_18 a9_19 v9_20 v9_21 v9_22 a9_23 a9_24 a9_25 a9_26 a9_27 a9_28 a9_29 a9_30 a9_31 a9_32 a9_33 a9_34 v9_35 v9_36 a9_37 a9_38 a9_39 a9_40 a9_41 v9_42 a9_43 a9_44 a9_45 a9_46 a9_47 v9_48 v9_49 v9_50 v9_51 a9_52 a9_53 v9_54 v9_55 a9_56 a9_57 v9_58 a9_59 a9_60 a9_61 (p1 &&& 65535) r_3 h_3) (cwV 1 hts gX9_isType_X9_isClass rfl rfl rfl (by decide +kernel) ⟨Nat.le_of_ble_eq_true rfl, Nat.le_of_ble_eq_true rfl⟩) (x_pV hN hK hPc (ci := 9) (q0 := 0) rfl rfl) rfl rfl hl.1 rfl (lv_room (Nat.le_of_ble_eq_true rfl)) dX9_isType_19 ⟨Nat.le_of_ble_eq_true rfl, Nat.le_of_ble_eq_true rfl⟩) hS x_nA (x_nf hA hS) (fun q_3 u t H1 locs ht hvm hw hB hz1 hk1 hS => ?_)
      have hP := x_kp hP hk1
      clear ht hvm hB hz1 hk1 t u hPc
      generalize H1 = H at hP hS ⊢
      obtain ⟨hw, b_3⟩ := hw
      obtain rfl := hw.symm
      refine lv_if_ne (tgt := 34) hx hb dX9_isType_22 (by decide) (fun c_4 => ?_) (fun c_4 => ?_)
      · replace hf := x_in c_4 hf
        refine lv_iconst (v := 1) hx hb dX9_isType_34 (by decide) ?_
        refine lv_goto (tgt := 39) hx hb dX9_isType_35 (by decide) ?_
        obtain rfl := Option.some.inj hf
        exact W.zret (ty := .boolean) hx hb hr rfl (fun t ht hW => ⟨⟨_, (), rfl, ⟨rfl, rfl⟩, trivial⟩, hS.F ht⟩) hS.2.2 dX9_isType_39
      · replace hf := x_ip c_4 hf
        refine lv_iload_n hx hb dX9_isType_25 rfl (lv_at hl 1 rfl) ?_
        refine lv_ldc (v := 65535) hx hb hown k_1 dX9_isType_26 ?_
        refine lv_iand hx hb dX9_isType_28 ?_
        refine lv_ldc (v := 65528) hx hb hown k_2 dX9_isType_29 ?_
        refine lv_icmp_lt (tgt := 38) hx hb dX9_isType_31 (by decide) (fun c_5 => ?_) (fun c_5 => ?_)
        · replace hf := x_ip c_5 hf
          refine lv_iconst (v := 0) hx hb dX9_isType_38 (by decide) ?_
          obtain rfl := Option.some.inj hf
          exact W.zret (ty := .boolean) hx hb hr rfl (fun t ht hW => ⟨⟨_, (), rfl, ⟨rfl, rfl⟩, trivial⟩, hS.F ht⟩) hS.2.2 dX9_isType_39
        · replace hf := x_in c_5 hf
          refine lv_iconst (v := 1) hx hb dX9_isType_34 (by decide) ?_
          refine lv_goto (tgt := 39) hx hb dX9_isType_35 (by decide) ?_
          obtain rfl := Option.some.inj hf
          exact W.zret (ty := .boolean) hx hb hr rfl (fun t ht hW => ⟨⟨_, (), rfl, ⟨rfl, rfl⟩, trivial⟩, hS.F ht⟩) hS.2.2 dX9_isType_39

def f_X9_isWide (p1 : Int32) : Option (Int32) := if p1 = (65531 : Int32) then some 1 else if p1 = (65535 : Int32) then some 1 else some 0
set_option maxHeartbeats 4000000 in
set_option maxRecDepth 100000 in
theorem c_X9_isWide (l : Launch) (dC : Nat → ClassId) (dI : Nat → Nat → Nat) (cyI cyZ cyJ : ClassId) (sz : Nat) (o9 : Nat) (v9_0 : Int32) (v9_1 : Int32) (v9_2 : Int32) (v9_3 : Int32) (a9_4 : Nat) (a9_5 : Nat) (a9_6 : Nat) (a9_7 : Nat) (a9_8 : Nat) (a9_9 : Nat) (a9_10 : Nat) (a9_11 : Nat) (a9_12 : Nat) (v9_13 : Int32) (v9_14 : Int32) (v9_15 : Int32) (v9_16 : Int32) (v9_17 : Int32) (v9_18 : Int32) (a9_19 : Nat) (v9_20 : Int32) (v9_21 : Int32) (v9_22 : Int32) (a9_23 : Nat) (a9_24 : Nat) (a9_25 : Nat) (a9_26 : Nat) (a9_27 : Nat) (a9_28 : Nat) (a9_29 : Nat) (a9_30 : Nat) (a9_31 : Nat) (a9_32 : Nat) (a9_33 : Nat) (a9_34 : Nat) (v9_35 : Int32) (v9_36 : Int32) (a9_37 : Nat) (a9_38 : Nat) (a9_39 : Nat) (a9_40 : Nat) (a9_41 : Nat) (v9_42 : Int32) (a9_43 : Nat) (a9_44 : Nat) (a9_45 : Nat) (a9_46 : Nat) (a9_47 : Nat) (v9_48 : Int32) (v9_49 : Int32) (v9_50 : Int32) (v9_51 : Int32) (a9_52 : Nat) (a9_53 : Nat) (v9_54 : Int32) (v9_55 : Int32) (a9_56 : Nat) (a9_57 : Nat) (v9_58 : Int32) (a9_59 : Nat) (a9_60 : Nat) (a9_61 : Nat) (p1 : Int32) (R : Int32) (hf : f_X9_isWide p1 = some R) : Met l yX9_isWide wsX9_isWide ({ frames := 0, cells := 0, slots := 0, locals := 0 }) (va_Pc [.ref o9, .int p1] (x_Pre (dC, dI) (x_T cyI cyZ cyJ) [(o9, .inr (9, x_O9 v9_0 v9_1 v9_2 v9_3 a9_4 a9_5 a9_6 a9_7 a9_8 a9_9 a9_10 a9_11 a9_12 v9_13 v9_14 v9_15 v9_16 v9_17 v9_18 a9_19 v9_20 v9_21 v9_22 a9_23 a9_24 a9_25 a9_26 a9_27 a9_28 a9_29 a9_30 a9_31 a9_32 a9_33 a9_34 v9_35 v9_36 a9_37 a9_38 a9_39 a9_40 a9_41 v9_42 a9_43 a9_44 a9_45 a9_46 a9_47 v9_48 v9_49 v9_50 v9_51 a9_52 a9_53 v9_54 v9_55 a9_56 a9_57 v9_58 a9_59 a9_60 a9_61))] sz)) (va_Qi (fun (r : Int32) (_ : Unit) => r = R ∧ x_nb r) (fun _ _ => True) (x_new sz)) 0 0 (x_new sz) := by
  refine Met.ofW (cc := cX9_isWide) (maxL := 2) (ret := (some .boolean)) (by decide) rfl ?_
  intro p e s m args below meth c s₁ B hml hv
  obtain ⟨rfl, hsz, hP, hK, hN⟩ := hv
  have hx := B.exec
  have hb := B.bytes
  have hr := B.returns
  have hts := atoms_spec (ws := wsX9_isWide) B.pre
  have hown : s.vm.findClass RX9 = some m.cls := findClass_of_methodNamed B.named
  have k_1 := hts (.constant RX9 147 (65531)) (by decide +kernel)
  have k_2 := hts (.constant RX9 142 (65535)) (by decide +kernel)
  subst hsz
  have hA : ∀ q : Nat, s.heap.size ≤ q → x_new s.heap.size q := fun _ h => h
  have hS : va_S (x_new s.heap.size) s.heap s.heap [] := va_S.rf
  have hP : va_P (dC, dI) vwCl [(o9, .inr (9, x_O9 v9_0 v9_1 v9_2 v9_3 a9_4 a9_5 a9_6 a9_7 a9_8 a9_9 a9_10 a9_11 a9_12 v9_13 v9_14 v9_15 v9_16 v9_17 v9_18 a9_19 v9_20 v9_21 v9_22 a9_23 a9_24 a9_25 a9_26 a9_27 a9_28 a9_29 a9_30 a9_31 a9_32 a9_33 a9_34 v9_35 v9_36 a9_37 a9_38 a9_39 a9_40 a9_41 v9_42 a9_43 a9_44 a9_45 a9_46 a9_47 v9_48 v9_49 v9_50 v9_51 a9_52 a9_53 v9_54 v9_55 a9_56 a9_57 v9_58 a9_59 a9_60 a9_61))] s.heap := hP
  have hl := lv_entry ([.ref o9, .int p1]) (n := 2) (Nat.le_of_ble_eq_true rfl)
  rw [lg_entry_eq]
  generalize (lg_sl ([.ref o9, .int p1]) ++ List.replicate (2 - (lg_sl ([.ref o9, .int p1])).length) Slot.unset).toArray = ls at hl ⊢
  have hl : lv_has ls 2 [(0, .ref o9), (1, .int p1)] := hl
  obtain ⟨H, hH⟩ : ∃ z, z = s.heap := ⟨_, rfl⟩
  refine x_here hH ?_
  have hP : va_P (dC, dI) vwCl [(o9, .inr (9, x_O9 v9_0 v9_1 v9_2 v9_3 a9_4 a9_5 a9_6 a9_7 a9_8 a9_9 a9_10 a9_11 a9_12 v9_13 v9_14 v9_15 v9_16 v9_17 v9_18 a9_19 v9_20 v9_21 v9_22 a9_23 a9_24 a9_25 a9_26 a9_27 a9_28 a9_29 a9_30 a9_31 a9_32 a9_33 a9_34 v9_35 v9_36 a9_37 a9_38 a9_39 a9_40 a9_41 v9_42 a9_43 a9_44 a9_45 a9_46 a9_47 v9_48 v9_49 v9_50 v9_51 a9_52 a9_53 v9_54 v9_55 a9_56 a9_57 v9_58 a9_59 a9_60 a9_61))] H := by rw [hH]; exact hP
  have hS : va_S (x_new s.heap.size) s.heap H [] := by rw [hH]; exact va_S.rf
  clear hH
  obtain ⟨locs, hlo⟩ : ∃ z : List Loc, z = [] := ⟨_, rfl⟩
  refine x_herl hlo ?_
  have hS : va_S (x_new s.heap.size) s.heap H locs := by rw [hlo]; exact hS
  clear hlo
  unfold f_X9_isWide at hf
  refine lv_iload_n hx hb dX9_isWide_0 rfl (lv_at hl 1 rfl) ?_
  refine lv_ldc (v := 65531) hx hb hown k_1 dX9_isWide_1 ?_
  refine lv_icmp_eq (tgt := 12) hx hb dX9_isWide_3 (by decide) (fun c_1 => ?_) (fun c_1 => ?_)
  · replace hf := x_ip c_1 hf
    refine lv_iconst (v := 1) hx hb dX9_isWide_12 (by decide) ?_
    refine lv_goto (tgt := 17) hx hb dX9_isWide_13 (by decide) ?_
    obtain rfl := Option.some.inj hf
    exact W.zret (ty := .boolean) hx hb hr rfl (fun t ht hW => ⟨⟨_, (), rfl, ⟨rfl, rfl⟩, trivial⟩, hS.F ht⟩) hS.2.2 dX9_isWide_17
  · replace hf := x_in c_1 hf
    refine lv_iload_n hx hb dX9_isWide_6 rfl (lv_at hl 1 rfl) ?_
    refine lv_ldc (v := 65535) hx hb hown k_2 dX9_isWide_7 ?_
    refine lv_icmp_ne (tgt := 16) hx hb dX9_isWide_9 (by decide) (fun c_2 => ?_) (fun c_2 => ?_)
    · replace hf := x_in c_2 hf
      refine lv_iconst (v := 0) hx hb dX9_isWide_16 (by decide) ?_
      obtain rfl := Option.some.inj hf
      exact W.zret (ty := .boolean) hx hb hr rfl (fun t ht hW => ⟨⟨_, (), rfl, ⟨rfl, rfl⟩, trivial⟩, hS.F ht⟩) hS.2.2 dX9_isWide_17
    · replace hf := x_ip c_2 hf
      refine lv_iconst (v := 1) hx hb dX9_isWide_12 (by decide) ?_
      refine lv_goto (tgt := 17) hx hb dX9_isWide_13 (by decide) ?_
      obtain rfl := Option.some.inj hf
      exact W.zret (ty := .boolean) hx hb hr rfl (fun t ht hW => ⟨⟨_, (), rfl, ⟨rfl, rfl⟩, trivial⟩, hS.F ht⟩) hS.2.2 dX9_isWide_17

def f_X9_below_L (g9_4 : Nat → Int32) (l2 : Int32) (z : Nat × Int32) : Option (Int32) := match z with
  | (q, l3) => if q = 0 then if l3 < (0 : Int32) then some 0 else if l3 = l2 then some 1 else if x_gd l3 200 = true then (f_X9_below_L g9_4 l2 (0, g9_4 (Int32.toNatClampNeg l3))) else none else none
partial_fixpoint
def f_X9_below (g9_4 : Nat → Int32) (p1 : Int32) (p2 : Int32) : Option (Int32) := (f_X9_below_L g9_4 p2 (0, p1))
theorem i_X9_below_X9 : ∀ w ∈ wsX90, w ∈ wsX9_below := fun _ h => List.mem_cons_of_mem _ (List.mem_append_right _ h)
set_option maxHeartbeats 4000000 in
set_option maxRecDepth 100000 in
theorem c_X9_below (l : Launch) (dC : Nat → ClassId) (dI : Nat → Nat → Nat) (cyI cyZ cyJ : ClassId) (sz : Nat) (o9 : Nat) (v9_0 : Int32) (v9_1 : Int32) (v9_2 : Int32) (v9_3 : Int32) (a9_4 : Nat) (a9_5 : Nat) (a9_6 : Nat) (a9_7 : Nat) (a9_8 : Nat) (a9_9 : Nat) (a9_10 : Nat) (a9_11 : Nat) (a9_12 : Nat) (v9_13 : Int32) (v9_14 : Int32) (v9_15 : Int32) (v9_16 : Int32) (v9_17 : Int32) (v9_18 : Int32) (a9_19 : Nat) (v9_20 : Int32) (v9_21 : Int32) (v9_22 : Int32) (a9_23 : Nat) (a9_24 : Nat) (a9_25 : Nat) (a9_26 : Nat) (a9_27 : Nat) (a9_28 : Nat) (a9_29 : Nat) (a9_30 : Nat) (a9_31 : Nat) (a9_32 : Nat) (a9_33 : Nat) (a9_34 : Nat) (v9_35 : Int32) (v9_36 : Int32) (a9_37 : Nat) (a9_38 : Nat) (a9_39 : Nat) (a9_40 : Nat) (a9_41 : Nat) (v9_42 : Int32) (a9_43 : Nat) (a9_44 : Nat) (a9_45 : Nat) (a9_46 : Nat) (a9_47 : Nat) (v9_48 : Int32) (v9_49 : Int32) (v9_50 : Int32) (v9_51 : Int32) (a9_52 : Nat) (a9_53 : Nat) (v9_54 : Int32) (v9_55 : Int32) (a9_56 : Nat) (a9_57 : Nat) (v9_58 : Int32) (a9_59 : Nat) (a9_60 : Nat) (a9_61 : Nat) (g9_4 : Nat → Int32) (p1 : Int32) (p2 : Int32) (R : Int32) (hf : f_X9_below g9_4 p1 p2 = some R) : Met l yX9_below wsX9_below ({ frames := 0, cells := 0, slots := 0, locals := 0 }) (va_Pc [.ref o9, .int p1, .int p2] (x_Pre (dC, dI) (x_T cyI cyZ cyJ) [(o9, .inr (9, x_O9 v9_0 v9_1 v9_2 v9_3 a9_4 a9_5 a9_6 a9_7 a9_8 a9_9 a9_10 a9_11 a9_12 v9_13 v9_14 v9_15 v9_16 v9_17 v9_18 a9_19 v9_20 v9_21 v9_22 a9_23 a9_24 a9_25 a9_26 a9_27 a9_28 a9_29 a9_30 a9_31 a9_32 a9_33 a9_34 v9_35 v9_36 a9_37 a9_38 a9_39 a9_40 a9_41 v9_42 a9_43 a9_44 a9_45 a9_46 a9_47 v9_48 v9_49 v9_50 v9_51 a9_52 a9_53 v9_54 v9_55 a9_56 a9_57 v9_58 a9_59 a9_60 a9_61)), (a9_4, .inl (cyI, 200, .inl g9_4))] sz)) (va_Qi (fun (r : Int32) (_ : Unit) => r = R ∧ x_nb r) (fun _ _ => True) (x_new sz)) 0 0 (x_new sz) := by
  refine Met.ofW (cc := cX9_below) (maxL := 4) (ret := (some .boolean)) (by decide) rfl ?_
  intro p e s m args below meth c s₁ B hml hv
  obtain ⟨rfl, hsz, hP, hK, hN⟩ := hv
  have hx := B.exec
  have hb := B.bytes
  have hr := B.returns
  have hts := atoms_spec (ws := wsX9_below) B.pre
  have hown : s.vm.findClass RX9 = some m.cls := findClass_of_methodNamed B.named
  have k_1 := hts (.fieldLink RX9 16 "FlowJudgeModel" "up" "[I") (by decide +kernel)
  subst hsz
  have hA : ∀ q : Nat, s.heap.size ≤ q → x_new s.heap.size q := fun _ h => h
  have hS : va_S (x_new s.heap.size) s.heap s.heap [] := va_S.rf
  have hP : va_P (dC, dI) vwCl [(o9, .inr (9, x_O9 v9_0 v9_1 v9_2 v9_3 a9_4 a9_5 a9_6 a9_7 a9_8 a9_9 a9_10 a9_11 a9_12 v9_13 v9_14 v9_15 v9_16 v9_17 v9_18 a9_19 v9_20 v9_21 v9_22 a9_23 a9_24 a9_25 a9_26 a9_27 a9_28 a9_29 a9_30 a9_31 a9_32 a9_33 a9_34 v9_35 v9_36 a9_37 a9_38 a9_39 a9_40 a9_41 v9_42 a9_43 a9_44 a9_45 a9_46 a9_47 v9_48 v9_49 v9_50 v9_51 a9_52 a9_53 v9_54 v9_55 a9_56 a9_57 v9_58 a9_59 a9_60 a9_61)), (a9_4, .inl (cyI, 200, .inl g9_4))] s.heap := hP
  have hl := lv_entry ([.ref o9, .int p1, .int p2]) (n := 4) (Nat.le_of_ble_eq_true rfl)
  rw [lg_entry_eq]
  generalize (lg_sl ([.ref o9, .int p1, .int p2]) ++ List.replicate (4 - (lg_sl ([.ref o9, .int p1, .int p2])).length) Slot.unset).toArray = ls at hl ⊢
  have hl : lv_has ls 4 [(0, .ref o9), (1, .int p1), (2, .int p2)] := hl
  obtain ⟨H, hH⟩ : ∃ z, z = s.heap := ⟨_, rfl⟩
  refine x_here hH ?_
  have hP : va_P (dC, dI) vwCl [(o9, .inr (9, x_O9 v9_0 v9_1 v9_2 v9_3 a9_4 a9_5 a9_6 a9_7 a9_8 a9_9 a9_10 a9_11 a9_12 v9_13 v9_14 v9_15 v9_16 v9_17 v9_18 a9_19 v9_20 v9_21 v9_22 a9_23 a9_24 a9_25 a9_26 a9_27 a9_28 a9_29 a9_30 a9_31 a9_32 a9_33 a9_34 v9_35 v9_36 a9_37 a9_38 a9_39 a9_40 a9_41 v9_42 a9_43 a9_44 a9_45 a9_46 a9_47 v9_48 v9_49 v9_50 v9_51 a9_52 a9_53 v9_54 v9_55 a9_56 a9_57 v9_58 a9_59 a9_60 a9_61)), (a9_4, .inl (cyI, 200, .inl g9_4))] H := by rw [hH]; exact hP
  have hS : va_S (x_new s.heap.size) s.heap H [] := by rw [hH]; exact va_S.rf
  clear hH
  obtain ⟨locs, hlo⟩ : ∃ z : List Loc, z = [] := ⟨_, rfl⟩
  refine x_herl hlo ?_
  have hS : va_S (x_new s.heap.size) s.heap H locs := by rw [hlo]; exact hS
  clear hlo
  unfold f_X9_below at hf
  refine x_wn (fun WW hWW => ?_)
  have J := fun (l2 : Int32) => f_X9_below_L.partial_correctness g9_4 l2 (fun (z : Nat × Int32) (r : Int32) => r = R → ∀ (q : Nat) (l3 : Int32), z = (q, l3) → ((q = 0 → ∀ (H : Heap) (locs : List Loc) (ls : Array Slot), va_P (dC, dI) vwCl [(o9, .inr (9, x_O9 v9_0 v9_1 v9_2 v9_3 a9_4 a9_5 a9_6 a9_7 a9_8 a9_9 a9_10 a9_11 a9_12 v9_13 v9_14 v9_15 v9_16 v9_17 v9_18 a9_19 v9_20 v9_21 v9_22 a9_23 a9_24 a9_25 a9_26 a9_27 a9_28 a9_29 a9_30 a9_31 a9_32 a9_33 a9_34 v9_35 v9_36 a9_37 a9_38 a9_39 a9_40 a9_41 v9_42 a9_43 a9_44 a9_45 a9_46 a9_47 v9_48 v9_49 v9_50 v9_51 a9_52 a9_53 v9_54 v9_55 a9_56 a9_57 v9_58 a9_59 a9_60 a9_61)), (a9_4, .inl (cyI, 200, .inl g9_4))] H → va_S (x_new s.heap.size) s.heap H locs → lv_has ls 4 [(0, .ref o9), (2, .int l2), (3, .int l3)] → WW H locs 0 0 (F0 m 2 ls [])))) (by
    intro F ih z r hf hr q l3 hz
    subst hz
    obtain rfl := hr
    · intro hq H locs ls hP hS hl
      subst hq
      refine (hWW _ _ _ _ _).mp ?_
      replace hf := x_ip rfl hf
      refine lv_iload_n hx hb dX9_below_2 rfl (lv_at hl 2 rfl) ?_
      refine lv_if_lt (tgt := 23) hx hb dX9_below_3 (by decide) (fun c_1 => ?_) (fun c_1 => ?_)
      · replace hf := x_ip c_1 hf
        refine lv_iconst (v := 0) hx hb dX9_below_23 (by decide) ?_
        obtain rfl := Option.some.inj hf
        exact W.zret (ty := .boolean) hx hb hr rfl (fun t ht hW => ⟨⟨_, (), rfl, ⟨rfl, rfl⟩, trivial⟩, hS.F ht⟩) hS.2.2 dX9_below_24
      · replace hf := x_in c_1 hf
        refine lv_iload_n hx hb dX9_below_6 rfl (lv_at hl 2 rfl) ?_
        refine lv_iload_n hx hb dX9_below_7 rfl (lv_at hl 1 rfl) ?_
        refine lv_icmp_ne (tgt := 13) hx hb dX9_below_8 (by decide) (fun c_2 => ?_) (fun c_2 => ?_)
        · replace hf := x_in c_2 hf
          refine lv_aload_n hx hb dX9_below_13 rfl (lv_at hl 0 rfl) ?_
          refine va_get (D := (dC, dI)) (ci := 9) (v := .ref a9_4) (C := RX9) (T := TX9) (N := 62) hx hb hts i_X9_below_X9 hown hK hP 0 rfl rfl 4 (by decide) k_1 (fun _ h9 => h9) rfl dX9_below_14 ?_
          refine lv_iload_n hx hb dX9_below_17 rfl (lv_at hl 2 rfl) ?_
          obtain ⟨g_3, hf⟩ := x_gu hf
          refine va_iald hx hb hK hP 1 0 rfl rfl (x_gdin g_3) dX9_below_18 ?_
          refine lv_istore_n (lv' := [(3, .int (g9_4 (Int32.toNatClampNeg l3))), (0, .ref o9), (2, .int l2)]) hx hb dX9_below_19 rfl hl (by decide) rfl (fun ls hl => ?_)
          refine lv_goto (tgt := 2) hx hb dX9_below_20 (by decide) ?_
          exact (hWW _ _ _ _ _).mpr ((ih (0, g9_4 (Int32.toNatClampNeg l3)) _ hf rfl _ _ rfl) rfl H locs ls hP hS (lv_sub hl [1, 2, 0] rfl))
        · replace hf := x_ip c_2 hf
          refine lv_iconst (v := 1) hx hb dX9_below_11 (by decide) ?_
          obtain rfl := Option.some.inj hf
          exact W.zret (ty := .boolean) hx hb hr rfl (fun t ht hW => ⟨⟨_, (), rfl, ⟨rfl, rfl⟩, trivial⟩, hS.F ht⟩) hS.2.2 dX9_below_12)
  refine lv_iload_n hx hb dX9_below_0 rfl (lv_at hl 1 rfl) ?_
  refine lv_istore_n (lv' := [(3, .int p1), (0, .ref o9), (1, .int p1), (2, .int p2)]) hx hb dX9_below_1 rfl hl (by decide) rfl (fun ls hl => ?_)
  exact (hWW _ _ _ _ _).mpr ((J p2 (0, p1) _ hf rfl _ _ rfl) rfl H locs ls hP hS (lv_sub hl [1, 3, 0] rfl))

def f_X9_may_0 (g9_4 : Nat → Int32) (g9_5 : Nat → Int32) (p1 : Int32) (p2 : Int32) : Option (Int32) := if p1 = p2 then some 1 else (f_X9_isPrimitive p1) >>= (fun r_2 => if r_2 = (0 : Int32) then (f_X9_isPrimitive p2) >>= (fun r_4 => if r_4 = (0 : Int32) then if (p2 >>> (16 &&& 31)) = (0 : Int32) then if (p1 >>> (16 &&& 31)) ≤ (0 : Int32) then if p2 = (0 : Int32) then some 1 else if x_gd p2 200 = true then if (g9_5 (Int32.toNatClampNeg p2)) = (0 : Int32) then (f_X9_below g9_4 p1 p2) >>= (fun r_18 => if r_18 = (0 : Int32) then some 0 else some 1) else some 1 else none else if p2 = (0 : Int32) then some 1 else if p2 = (2 : Int32) then some 1 else if p2 = (3 : Int32) then some 1 else some 0 else if (p1 >>> (16 &&& 31)) = (p2 >>> (16 &&& 31)) then if (65528 : Int32) ≤ (p1 &&& 65535) then some 0 else if (65528 : Int32) ≤ (p2 &&& 65535) then some 0 else none else if (p1 >>> (16 &&& 31)) ≤ (p2 >>> (16 &&& 31)) then some 0 else if (p2 &&& 65535) = (0 : Int32) then some 1 else if (p2 &&& 65535) = (2 : Int32) then some 1 else if (p2 &&& 65535) = (3 : Int32) then some 1 else some 0 else some 0) else some 0)
theorem i_X9_may_0_X9 : ∀ w ∈ wsX90, w ∈ wsX9_may := fun _ h => List.mem_cons_of_mem _ (List.mem_append_right _ h)
set_option maxHeartbeats 4000000 in
set_option maxRecDepth 100000 in
theorem c_X9_may_0 (l : Launch) (dC : Nat → ClassId) (dI : Nat → Nat → Nat) (cyI cyZ cyJ : ClassId) (sz : Nat) (o9 : Nat) (v9_0 : Int32) (v9_1 : Int32) (v9_2 : Int32) (v9_3 : Int32) (a9_4 : Nat) (a9_5 : Nat) (a9_6 : Nat) (a9_7 : Nat) (a9_8 : Nat) (a9_9 : Nat) (a9_10 : Nat) (a9_11 : Nat) (a9_12 : Nat) (v9_13 : Int32) (v9_14 : Int32) (v9_15 : Int32) (v9_16 : Int32) (v9_17 : Int32) (v9_18 : Int32) (a9_19 : Nat) (v9_20 : Int32) (v9_21 : Int32) (v9_22 : Int32) (a9_23 : Nat) (a9_24 : Nat) (a9_25 : Nat) (a9_26 : Nat) (a9_27 : Nat) (a9_28 : Nat) (a9_29 : Nat) (a9_30 : Nat) (a9_31 : Nat) (a9_32 : Nat) (a9_33 : Nat) (a9_34 : Nat) (v9_35 : Int32) (v9_36 : Int32) (a9_37 : Nat) (a9_38 : Nat) (a9_39 : Nat) (a9_40 : Nat) (a9_41 : Nat) (v9_42 : Int32) (a9_43 : Nat) (a9_44 : Nat) (a9_45 : Nat) (a9_46 : Nat) (a9_47 : Nat) (v9_48 : Int32) (v9_49 : Int32) (v9_50 : Int32) (v9_51 : Int32) (a9_52 : Nat) (a9_53 : Nat) (v9_54 : Int32) (v9_55 : Int32) (a9_56 : Nat) (a9_57 : Nat) (v9_58 : Int32) (a9_59 : Nat) (a9_60 : Nat) (a9_61 : Nat) (g9_4 : Nat → Int32) (g9_5 : Nat → Int32) (p1 : Int32) (p2 : Int32) (R : Int32) (hf : f_X9_may_0 g9_4 g9_5 p1 p2 = some R) : Met l yX9_may wsX9_may ({ frames := 1, cells := 0, slots := 0, locals := 23 }) (va_Pc [.ref o9, .int p1, .int p2] (x_Pre (dC, dI) (x_T cyI cyZ cyJ) [(o9, .inr (9, x_O9 v9_0 v9_1 v9_2 v9_3 a9_4 a9_5 a9_6 a9_7 a9_8 a9_9 a9_10 a9_11 a9_12 v9_13 v9_14 v9_15 v9_16 v9_17 v9_18 a9_19 v9_20 v9_21 v9_22 a9_23 a9_24 a9_25 a9_26 a9_27 a9_28 a9_29 a9_30 a9_31 a9_32 a9_33 a9_34 v9_35 v9_36 a9_37 a9_38 a9_39 a9_40 a9_41 v9_42 a9_43 a9_44 a9_45 a9_46 a9_47 v9_48 v9_49 v9_50 v9_51 a9_52 a9_53 v9_54 v9_55 a9_56 a9_57 v9_58 a9_59 a9_60 a9_61)), (a9_4, .inl (cyI, 200, .inl g9_4)), (a9_5, .inl (cyZ, 200, .inl g9_5))] sz)) (va_Qi (fun (r : Int32) (_ : Unit) => r = R ∧ x_nb r) (fun _ _ => True) (x_new sz)) 0 0 (x_new sz) := by
  refine Met.ofW (cc := cX9_may) (maxL := 7) (ret := (some .boolean)) (by decide) rfl ?_
  intro p e s m args below meth c s₁ B hml hv
  obtain ⟨rfl, hsz, hP, hK, hN⟩ := hv
  have hx := B.exec
  have hb := B.bytes
  have hr := B.returns
  have hts := atoms_spec (ws := wsX9_may) B.pre
  have hown : s.vm.findClass RX9 = some m.cls := findClass_of_methodNamed B.named
  have k_1 := hts (.constant RX9 142 (65535)) (by decide +kernel)
  have k_2 := hts (.constant RX9 140 (65528)) (by decide +kernel)
  have k_3 := hts (.fieldLink RX9 20 "FlowJudgeModel" "face" "[Z") (by decide +kernel)
  subst hsz
  have hA : ∀ q : Nat, s.heap.size ≤ q → x_new s.heap.size q := fun _ h => h
  have hS : va_S (x_new s.heap.size) s.heap s.heap [] := va_S.rf
  have hP : va_P (dC, dI) vwCl [(o9, .inr (9, x_O9 v9_0 v9_1 v9_2 v9_3 a9_4 a9_5 a9_6 a9_7 a9_8 a9_9 a9_10 a9_11 a9_12 v9_13 v9_14 v9_15 v9_16 v9_17 v9_18 a9_19 v9_20 v9_21 v9_22 a9_23 a9_24 a9_25 a9_26 a9_27 a9_28 a9_29 a9_30 a9_31 a9_32 a9_33 a9_34 v9_35 v9_36 a9_37 a9_38 a9_39 a9_40 a9_41 v9_42 a9_43 a9_44 a9_45 a9_46 a9_47 v9_48 v9_49 v9_50 v9_51 a9_52 a9_53 v9_54 v9_55 a9_56 a9_57 v9_58 a9_59 a9_60 a9_61)), (a9_4, .inl (cyI, 200, .inl g9_4)), (a9_5, .inl (cyZ, 200, .inl g9_5))] s.heap := hP
  have hl := lv_entry ([.ref o9, .int p1, .int p2]) (n := 7) (Nat.le_of_ble_eq_true rfl)
  rw [lg_entry_eq]
  generalize (lg_sl ([.ref o9, .int p1, .int p2]) ++ List.replicate (7 - (lg_sl ([.ref o9, .int p1, .int p2])).length) Slot.unset).toArray = ls at hl ⊢
  have hl : lv_has ls 7 [(0, .ref o9), (1, .int p1), (2, .int p2)] := hl
  obtain ⟨H, hH⟩ : ∃ z, z = s.heap := ⟨_, rfl⟩
  refine x_here hH ?_
  have hP : va_P (dC, dI) vwCl [(o9, .inr (9, x_O9 v9_0 v9_1 v9_2 v9_3 a9_4 a9_5 a9_6 a9_7 a9_8 a9_9 a9_10 a9_11 a9_12 v9_13 v9_14 v9_15 v9_16 v9_17 v9_18 a9_19 v9_20 v9_21 v9_22 a9_23 a9_24 a9_25 a9_26 a9_27 a9_28 a9_29 a9_30 a9_31 a9_32 a9_33 a9_34 v9_35 v9_36 a9_37 a9_38 a9_39 a9_40 a9_41 v9_42 a9_43 a9_44 a9_45 a9_46 a9_47 v9_48 v9_49 v9_50 v9_51 a9_52 a9_53 v9_54 v9_55 a9_56 a9_57 v9_58 a9_59 a9_60 a9_61)), (a9_4, .inl (cyI, 200, .inl g9_4)), (a9_5, .inl (cyZ, 200, .inl g9_5))] H := by rw [hH]; exact hP
  have hS : va_S (x_new s.heap.size) s.heap H [] := by rw [hH]; exact va_S.rf
  clear hH
  obtain ⟨locs, hlo⟩ : ∃ z : List Loc, z = [] := ⟨_, rfl⟩
  refine x_herl hlo ?_
  have hS : va_S (x_new s.heap.size) s.heap H locs := by rw [hlo]; exact hS
  clear hlo
  unfold f_X9_may_0 at hf
  refine lv_iload_n hx hb dX9_may_0 rfl (lv_at hl 1 rfl) ?_
  refine lv_iload_n hx hb dX9_may_1 rfl (lv_at hl 2 rfl) ?_
  refine lv_icmp_ne (tgt := 7) hx hb dX9_may_2 (by decide) (fun c_1 => ?_) (fun c_1 => ?_)
  · replace hf := x_in c_1 hf
    refine lv_aload_n hx hb dX9_may_7 rfl (lv_at hl 0 rfl) ?_
    refine lv_iload_n hx hb dX9_may_8 rfl (lv_at hl 1 rfl) ?_
    obtain ⟨r_2, h_2, hf⟩ := x_bi hf
    have hPc := hP.sub (ws' := [(o9, .inr (9, x_O9 v9_0 v9_1 v9_2 v9_3 a9_4 a9_5 a9_6 a9_7 a9_8 a9_9 a9_10 a9_11 a9_12 v9_13 v9_14 v9_15 v9_16 v9_17 v9_18 a9_19 v9_20 v9_21 v9_22 a9_23 a9_24 a9_25 a9_26 a9_27 a9_28 a9_29 a9_30 a9_31 a9_32 a9_33 a9_34 v9_35 v9_36 a9_37 a9_38 a9_39 a9_40 a9_41 v9_42 a9_43 a9_44 a9_45 a9_46 a9_47 v9_48 v9_49 v9_50 v9_51 a9_52 a9_53 v9_54 v9_55 a9_56 a9_57 v9_58 a9_59 a9_60 a9_61))]) [0] rfl
    refine va_calli (va_runV (As := [.int p1]) (rest := []) ⟨hx, hb, hml, hown, hts⟩ (c_X9_isPrimitive l dC dI cyI cyZ cyJ H.size o9 v9_0 v9_1 v9_2 v9_3 a9_4 a9_5 a9_6 a9_7 a9_8 a9_9 a9_10 a9_11 a9_12 v9_13 v9_14 v9_15 v9_16 v9_17 v9_18 a9_19 v9_20 v9_21 v9_22 a9_23 a9_24 a9_25 a9_26 a9_27 a9_28 a9_29 a9_30 a9_31 a9_32 a9_33 a9_34 v9_35 v9_36 a9_37 a9_38 a9_39 a9_40 a9_41 v9_42 a9_43 a9_44 a9_45 a9_46 a9_47 v9_48 v9_49 v9_50 v9_51 a9_52 a9_53 v9_54 v9_55 a9_56 a9_57 v9_58 a9_59 a9_60 a9_61 p1 r_2 h_2) (cwV 1 hts gX9_may_X9_isPrimitive rfl rfl rfl (by decide +kernel) ⟨Nat.le_of_ble_eq_true rfl, Nat.le_of_ble_eq_true rfl⟩) (x_pV hN hK hPc (ci := 9) (q0 := 0) rfl rfl) rfl rfl hl.1 rfl (lv_room (Nat.le_of_ble_eq_true rfl)) dX9_may_9 ⟨Nat.le_of_ble_eq_true rfl, Nat.le_of_ble_eq_true rfl⟩) hS x_nA (x_nf hA hS) (fun q_2 u t H1 locs ht hvm hw hB hz1 hk1 hS => ?_)
    have hP := x_kp hP hk1
    clear ht hvm hB hz1 hk1 t u hPc
    generalize H1 = H at hP hS ⊢
    obtain ⟨hw, b_2⟩ := hw
    obtain rfl := hw.symm
    refine lv_if_ne (tgt := 23) hx hb dX9_may_12 (by decide) (fun c_3 => ?_) (fun c_3 => ?_)
    · replace hf := x_in c_3 hf
      refine lv_iconst (v := 0) hx hb dX9_may_23 (by decide) ?_
      obtain rfl := Option.some.inj hf
      exact W.zret (ty := .boolean) hx hb hr rfl (fun t ht hW => ⟨⟨_, (), rfl, ⟨rfl, rfl⟩, trivial⟩, hS.F ht⟩) hS.2.2 dX9_may_24
    · replace hf := x_ip c_3 hf
      refine lv_aload_n hx hb dX9_may_15 rfl (lv_at hl 0 rfl) ?_
      refine lv_iload_n hx hb dX9_may_16 rfl (lv_at hl 2 rfl) ?_
      obtain ⟨r_4, h_4, hf⟩ := x_bi hf
      have hPc := hP.sub (ws' := [(o9, .inr (9, x_O9 v9_0 v9_1 v9_2 v9_3 a9_4 a9_5 a9_6 a9_7 a9_8 a9_9 a9_10 a9_11 a9_12 v9_13 v9_14 v9_15 v9_16 v9_17 v9_18 a9_19 v9_20 v9_21 v9_22 a9_23 a9_24 a9_25 a9_26 a9_27 a9_28 a9_29 a9_30 a9_31 a9_32 a9_33 a9_34 v9_35 v9_36 a9_37 a9_38 a9_39 a9_40 a9_41 v9_42 a9_43 a9_44 a9_45 a9_46 a9_47 v9_48 v9_49 v9_50 v9_51 a9_52 a9_53 v9_54 v9_55 a9_56 a9_57 v9_58 a9_59 a9_60 a9_61))]) [0] rfl
      refine va_calli (va_runV (As := [.int p2]) (rest := []) ⟨hx, hb, hml, hown, hts⟩ (c_X9_isPrimitive l dC dI cyI cyZ cyJ H.size o9 v9_0 v9_1 v9_2 v9_3 a9_4 a9_5 a9_6 a9_7 a9_8 a9_9 a9_10 a9_11 a9_12 v9_13 v9_14 v9_15 v9_16 v9_17 v9_18 a9_19 v9_20 v9_21 v9_22 a9_23 a9_24 a9_25 a9_26 a9_27 a9_28 a9_29 a9_30 a9_31 a9_32 a9_33 a9_34 v9_35 v9_36 a9_37 a9_38 a9_39 a9_40 a9_41 v9_42 a9_43 a9_44 a9_45 a9_46 a9_47 v9_48 v9_49 v9_50 v9_51 a9_52 a9_53 v9_54 v9_55 a9_56 a9_57 v9_58 a9_59 a9_60 a9_61 p2 r_4 h_4) (cwV 1 hts gX9_may_X9_isPrimitive rfl rfl rfl (by decide +kernel) ⟨Nat.le_of_ble_eq_true rfl, Nat.le_of_ble_eq_true rfl⟩) (x_pV hN hK hPc (ci := 9) (q0 := 0) rfl rfl) rfl rfl hl.1 rfl (lv_room (Nat.le_of_ble_eq_true rfl)) dX9_may_17 ⟨Nat.le_of_ble_eq_true rfl, Nat.le_of_ble_eq_true rfl⟩) hS x_nA (x_nf hA hS) (fun q_4 u t H1 locs ht hvm hw hB hz1 hk1 hS => ?_)
      have hP := x_kp hP hk1
      clear ht hvm hB hz1 hk1 t u hPc
      generalize H1 = H at hP hS ⊢
      obtain ⟨hw, b_4⟩ := hw
      obtain rfl := hw.symm
      refine lv_if_eq (tgt := 25) hx hb dX9_may_20 (by decide) (fun c_5 => ?_) (fun c_5 => ?_)
      · replace hf := x_ip c_5 hf
        refine lv_iload_n hx hb dX9_may_25 rfl (lv_at hl 1 rfl) ?_
        refine lv_bipush (v := 16) hx hb dX9_may_26 (by decide) ?_
        refine lv_ishr hx hb dX9_may_28 ?_
        refine lv_istore_n (lv' := [(3, .int (p1 >>> (16 &&& 31))), (0, .ref o9), (1, .int p1), (2, .int p2)]) hx hb dX9_may_29 rfl hl (by decide) rfl (fun ls hl => ?_)
        refine lv_iload_n hx hb dX9_may_30 rfl (lv_at hl 3 rfl) ?_
        refine lv_bipush (v := 16) hx hb dX9_may_31 (by decide) ?_
        refine lv_ishr hx hb dX9_may_33 ?_
        refine lv_istore (lv' := [(4, .int (p2 >>> (16 &&& 31))), (3, .int (p1 >>> (16 &&& 31))), (0, .ref o9), (1, .int p1), (2, .int p2)]) hx hb dX9_may_34 hl (by decide) rfl (fun ls hl => ?_)
        refine lv_iload hx hb dX9_may_36 (lv_at hl 0 rfl) ?_
        refine lv_if_ne (tgt := 95) hx hb dX9_may_38 (by decide) (fun c_6 => ?_) (fun c_6 => ?_)
        · replace hf := x_in c_6 hf
          refine lv_iload_n hx hb dX9_may_95 rfl (lv_at hl 3 rfl) ?_
          refine lv_ldc (v := 65535) hx hb hown k_1 dX9_may_96 ?_
          refine lv_iand hx hb dX9_may_98 ?_
          refine lv_istore (lv' := [(5, .int (p1 &&& 65535)), (4, .int (p2 >>> (16 &&& 31))), (3, .int (p1 >>> (16 &&& 31))), (0, .ref o9), (1, .int p1), (2, .int p2)]) hx hb dX9_may_99 hl (by decide) rfl (fun ls hl => ?_)
          refine lv_iload_n hx hb dX9_may_101 rfl (lv_at hl 5 rfl) ?_
          refine lv_ldc (v := 65535) hx hb hown k_1 dX9_may_102 ?_
          refine lv_iand hx hb dX9_may_104 ?_
          refine lv_istore (lv' := [(6, .int (p2 &&& 65535)), (5, .int (p1 &&& 65535)), (4, .int (p2 >>> (16 &&& 31))), (3, .int (p1 >>> (16 &&& 31))), (0, .ref o9), (1, .int p1), (2, .int p2)]) hx hb dX9_may_105 hl (by decide) rfl (fun ls hl => ?_)
          refine lv_iload_n hx hb dX9_may_107 rfl (lv_at hl 3 rfl) ?_
          refine lv_iload hx hb dX9_may_108 (lv_at hl 2 rfl) ?_
          refine lv_icmp_ne (tgt := 144) hx hb dX9_may_110 (by decide) (fun c_7 => ?_) (fun c_7 => ?_)
          · replace hf := x_in c_7 hf
            refine lv_iload_n hx hb dX9_may_144 rfl (lv_at hl 3 rfl) ?_
            refine lv_iload hx hb dX9_may_145 (lv_at hl 2 rfl) ?_
            refine lv_icmp_le (tgt := 171) hx hb dX9_may_147 (by decide) (fun c_8 => ?_) (fun c_8 => ?_)
            · replace hf := x_ip c_8 hf
              refine lv_iconst (v := 0) hx hb dX9_may_171 (by decide) ?_
              obtain rfl := Option.some.inj hf
              exact W.zret (ty := .boolean) hx hb hr rfl (fun t ht hW => ⟨⟨_, (), rfl, ⟨rfl, rfl⟩, trivial⟩, hS.F ht⟩) hS.2.2 dX9_may_172
            · replace hf := x_in c_8 hf
              refine lv_iload hx hb dX9_may_150 (lv_at hl 0 rfl) ?_
              refine lv_if_eq (tgt := 167) hx hb dX9_may_152 (by decide) (fun c_9 => ?_) (fun c_9 => ?_)
              · replace hf := x_ip c_9 hf
                refine lv_iconst (v := 1) hx hb dX9_may_167 (by decide) ?_
                refine lv_goto (tgt := 172) hx hb dX9_may_168 (by decide) ?_
                obtain rfl := Option.some.inj hf
                exact W.zret (ty := .boolean) hx hb hr rfl (fun t ht hW => ⟨⟨_, (), rfl, ⟨rfl, rfl⟩, trivial⟩, hS.F ht⟩) hS.2.2 dX9_may_172
              · replace hf := x_in c_9 hf
                refine lv_iload hx hb dX9_may_155 (lv_at hl 0 rfl) ?_
                refine lv_iconst (v := 2) hx hb dX9_may_157 (by decide) ?_
                refine lv_icmp_eq (tgt := 167) hx hb dX9_may_158 (by decide) (fun c_10 => ?_) (fun c_10 => ?_)
                · replace hf := x_ip c_10 hf
                  refine lv_iconst (v := 1) hx hb dX9_may_167 (by decide) ?_
                  refine lv_goto (tgt := 172) hx hb dX9_may_168 (by decide) ?_
                  obtain rfl := Option.some.inj hf
                  exact W.zret (ty := .boolean) hx hb hr rfl (fun t ht hW => ⟨⟨_, (), rfl, ⟨rfl, rfl⟩, trivial⟩, hS.F ht⟩) hS.2.2 dX9_may_172
                · replace hf := x_in c_10 hf
                  refine lv_iload hx hb dX9_may_161 (lv_at hl 0 rfl) ?_
                  refine lv_iconst (v := 3) hx hb dX9_may_163 (by decide) ?_
                  refine lv_icmp_ne (tgt := 171) hx hb dX9_may_164 (by decide) (fun c_11 => ?_) (fun c_11 => ?_)
                  · replace hf := x_in c_11 hf
                    refine lv_iconst (v := 0) hx hb dX9_may_171 (by decide) ?_
                    obtain rfl := Option.some.inj hf
                    exact W.zret (ty := .boolean) hx hb hr rfl (fun t ht hW => ⟨⟨_, (), rfl, ⟨rfl, rfl⟩, trivial⟩, hS.F ht⟩) hS.2.2 dX9_may_172
                  · replace hf := x_ip c_11 hf
                    refine lv_iconst (v := 1) hx hb dX9_may_167 (by decide) ?_
                    refine lv_goto (tgt := 172) hx hb dX9_may_168 (by decide) ?_
                    obtain rfl := Option.some.inj hf
                    exact W.zret (ty := .boolean) hx hb hr rfl (fun t ht hW => ⟨⟨_, (), rfl, ⟨rfl, rfl⟩, trivial⟩, hS.F ht⟩) hS.2.2 dX9_may_172
          · replace hf := x_ip c_7 hf
            refine lv_iload hx hb dX9_may_113 (lv_at hl 1 rfl) ?_
            refine lv_ldc (v := 65528) hx hb hown k_2 dX9_may_115 ?_
            refine lv_icmp_ge (tgt := 142) hx hb dX9_may_117 (by decide) (fun c_12 => ?_) (fun c_12 => ?_)
            · replace hf := x_ip c_12 hf
              refine lv_iconst (v := 0) hx hb dX9_may_142 (by decide) ?_
              obtain rfl := Option.some.inj hf
              exact W.zret (ty := .boolean) hx hb hr rfl (fun t ht hW => ⟨⟨_, (), rfl, ⟨rfl, rfl⟩, trivial⟩, hS.F ht⟩) hS.2.2 dX9_may_143
            · replace hf := x_in c_12 hf
              refine lv_iload hx hb dX9_may_120 (lv_at hl 0 rfl) ?_
              refine lv_ldc (v := 65528) hx hb hown k_2 dX9_may_122 ?_
              refine lv_icmp_ge (tgt := 142) hx hb dX9_may_124 (by decide) (fun c_13 => ?_) (fun c_13 => ?_)
              · replace hf := x_ip c_13 hf
                refine lv_iconst (v := 0) hx hb dX9_may_142 (by decide) ?_
                obtain rfl := Option.some.inj hf
                exact W.zret (ty := .boolean) hx hb hr rfl (fun t ht hW => ⟨⟨_, (), rfl, ⟨rfl, rfl⟩, trivial⟩, hS.F ht⟩) hS.2.2 dX9_may_143
              · replace hf := x_in c_13 hf
                refine lv_aload_n hx hb dX9_may_127 rfl (lv_at hl 4 rfl) ?_
                refine lv_iload hx hb dX9_may_128 (lv_at hl 1 rfl) ?_
                refine lv_iload hx hb dX9_may_130 (lv_at hl 0 rfl) ?_
                cases hf
        · replace hf := x_ip c_6 hf
          refine lv_iload_n hx hb dX9_may_41 rfl (lv_at hl 1 rfl) ?_
          refine lv_if_le (tgt := 67) hx hb dX9_may_42 (by decide) (fun c_14 => ?_) (fun c_14 => ?_)
          · replace hf := x_ip c_14 hf
            refine lv_iload_n hx hb dX9_may_67 rfl (lv_at hl 4 rfl) ?_
            refine lv_if_eq (tgt := 89) hx hb dX9_may_68 (by decide) (fun c_15 => ?_) (fun c_15 => ?_)
            · replace hf := x_ip c_15 hf
              refine lv_iconst (v := 1) hx hb dX9_may_89 (by decide) ?_
              refine lv_goto (tgt := 94) hx hb dX9_may_90 (by decide) ?_
              obtain rfl := Option.some.inj hf
              exact W.zret (ty := .boolean) hx hb hr rfl (fun t ht hW => ⟨⟨_, (), rfl, ⟨rfl, rfl⟩, trivial⟩, hS.F ht⟩) hS.2.2 dX9_may_94
            · replace hf := x_in c_15 hf
              refine lv_aload_n hx hb dX9_may_71 rfl (lv_at hl 2 rfl) ?_
              refine va_get (D := (dC, dI)) (ci := 9) (v := .ref a9_5) (C := RX9) (T := TX9) (N := 62) hx hb hts i_X9_may_0_X9 hown hK hP 0 rfl rfl 5 (by decide) k_3 (fun _ h9 => h9) rfl dX9_may_72 ?_
              refine lv_iload_n hx hb dX9_may_75 rfl (lv_at hl 4 rfl) ?_
              obtain ⟨g_16, hf⟩ := x_gu hf
              refine va_zald hx hb hK hP 2 1 rfl rfl (x_gdin g_16) dX9_may_76 ?_
              refine lv_if_ne (tgt := 89) hx hb dX9_may_77 (by decide) (fun c_17 => ?_) (fun c_17 => ?_)
              · replace hf := x_in c_17 hf
                refine lv_iconst (v := 1) hx hb dX9_may_89 (by decide) ?_
                refine lv_goto (tgt := 94) hx hb dX9_may_90 (by decide) ?_
                obtain rfl := Option.some.inj hf
                exact W.zret (ty := .boolean) hx hb hr rfl (fun t ht hW => ⟨⟨_, (), rfl, ⟨rfl, rfl⟩, trivial⟩, hS.F ht⟩) hS.2.2 dX9_may_94
              · replace hf := x_ip c_17 hf
                refine lv_aload_n hx hb dX9_may_80 rfl (lv_at hl 2 rfl) ?_
                refine lv_iload_n hx hb dX9_may_81 rfl (lv_at hl 3 rfl) ?_
                refine lv_iload_n hx hb dX9_may_82 rfl (lv_at hl 4 rfl) ?_
                obtain ⟨r_18, h_18, hf⟩ := x_bi hf
                have hPc := hP.sub (ws' := [(o9, .inr (9, x_O9 v9_0 v9_1 v9_2 v9_3 a9_4 a9_5 a9_6 a9_7 a9_8 a9_9 a9_10 a9_11 a9_12 v9_13 v9_14 v9_15 v9_16 v9_17 v9_18 a9_19 v9_20 v9_21 v9_22 a9_23 a9_24 a9_25 a9_26 a9_27 a9_28 a9_29 a9_30 a9_31 a9_32 a9_33 a9_34 v9_35 v9_36 a9_37 a9_38 a9_39 a9_40 a9_41 v9_42 a9_43 a9_44 a9_45 a9_46 a9_47 v9_48 v9_49 v9_50 v9_51 a9_52 a9_53 v9_54 v9_55 a9_56 a9_57 v9_58 a9_59 a9_60 a9_61)), (a9_4, .inl (cyI, 200, .inl g9_4))]) [0, 1] rfl
                refine va_calli (va_runV (As := [.int p1, .int p2]) (rest := []) ⟨hx, hb, hml, hown, hts⟩ (c_X9_below l dC dI cyI cyZ cyJ H.size o9 v9_0 v9_1 v9_2 v9_3 a9_4 a9_5 a9_6 a9_7 a9_8 a9_9 a9_10 a9_11 a9_12 v9_13 v9_14 v9_15 v9_16 v9_17 v9_18 a9_19 v9_20 v9_21 v9_22 a9_23 a9_24 a9_25 a9_26 a9_27 a9_28 a9_29 a9_30 a9_31 a9_32 a9_33 a9_34 v9_35 v9_36 a9_37 a9_38 a9_39 a9_40 a9_41 v9_42 a9_43 a9_44 a9_45 a9_46 a9_47 v9_48 v9_49 v9_50 v9_51 a9_52 a9_53 v9_54 v9_55 a9_56 a9_57 v9_58 a9_59 a9_60 a9_61 g9_4 p1 p2 r_18 h_18) (cwV 2 hts gX9_may_X9_below rfl rfl rfl (by decide +kernel) ⟨Nat.le_of_ble_eq_true rfl, Nat.le_of_ble_eq_true rfl⟩) (x_pV hN hK hPc (ci := 9) (q0 := 0) rfl rfl) rfl rfl hl.1 rfl (lv_room (Nat.le_of_ble_eq_true rfl)) dX9_may_83 ⟨Nat.le_of_ble_eq_true rfl, Nat.le_of_ble_eq_true rfl⟩) hS x_nA (x_nf hA hS) (fun q_18 u t H1 locs ht hvm hw hB hz1 hk1 hS => ?_)
                have hP := x_kp hP hk1
                clear ht hvm hB hz1 hk1 t u hPc
                generalize H1 = H at hP hS ⊢
                obtain ⟨hw, b_18⟩ := hw
                obtain rfl := hw.symm
                refine lv_if_eq (tgt := 93) hx hb dX9_may_86 (by decide) (fun c_19 => ?_) (fun c_19 => ?_)
                · replace hf := x_ip c_19 hf
                  refine lv_iconst (v := 0) hx hb dX9_may_93 (by decide) ?_
                  obtain rfl := Option.some.inj hf
                  exact W.zret (ty := .boolean) hx hb hr rfl (fun t ht hW => ⟨⟨_, (), rfl, ⟨rfl, rfl⟩, trivial⟩, hS.F ht⟩) hS.2.2 dX9_may_94
                · replace hf := x_in c_19 hf
                  refine lv_iconst (v := 1) hx hb dX9_may_89 (by decide) ?_
                  refine lv_goto (tgt := 94) hx hb dX9_may_90 (by decide) ?_
                  obtain rfl := Option.some.inj hf
                  exact W.zret (ty := .boolean) hx hb hr rfl (fun t ht hW => ⟨⟨_, (), rfl, ⟨rfl, rfl⟩, trivial⟩, hS.F ht⟩) hS.2.2 dX9_may_94
          · replace hf := x_in c_14 hf
            refine lv_iload_n hx hb dX9_may_45 rfl (lv_at hl 4 rfl) ?_
            refine lv_if_eq (tgt := 59) hx hb dX9_may_46 (by decide) (fun c_20 => ?_) (fun c_20 => ?_)
            · replace hf := x_ip c_20 hf
              refine lv_iconst (v := 1) hx hb dX9_may_59 (by decide) ?_
              refine lv_goto (tgt := 94) hx hb dX9_may_60 (by decide) ?_
              obtain rfl := Option.some.inj hf
              exact W.zret (ty := .boolean) hx hb hr rfl (fun t ht hW => ⟨⟨_, (), rfl, ⟨rfl, rfl⟩, trivial⟩, hS.F ht⟩) hS.2.2 dX9_may_94
            · replace hf := x_in c_20 hf
              refine lv_iload_n hx hb dX9_may_49 rfl (lv_at hl 4 rfl) ?_
              refine lv_iconst (v := 2) hx hb dX9_may_50 (by decide) ?_
              refine lv_icmp_eq (tgt := 59) hx hb dX9_may_51 (by decide) (fun c_21 => ?_) (fun c_21 => ?_)
              · replace hf := x_ip c_21 hf
                refine lv_iconst (v := 1) hx hb dX9_may_59 (by decide) ?_
                refine lv_goto (tgt := 94) hx hb dX9_may_60 (by decide) ?_
                obtain rfl := Option.some.inj hf
                exact W.zret (ty := .boolean) hx hb hr rfl (fun t ht hW => ⟨⟨_, (), rfl, ⟨rfl, rfl⟩, trivial⟩, hS.F ht⟩) hS.2.2 dX9_may_94
              · replace hf := x_in c_21 hf
                refine lv_iload_n hx hb dX9_may_54 rfl (lv_at hl 4 rfl) ?_
                refine lv_iconst (v := 3) hx hb dX9_may_55 (by decide) ?_
                refine lv_icmp_ne (tgt := 63) hx hb dX9_may_56 (by decide) (fun c_22 => ?_) (fun c_22 => ?_)
                · replace hf := x_in c_22 hf
                  refine lv_iconst (v := 0) hx hb dX9_may_63 (by decide) ?_
                  refine lv_goto (tgt := 94) hx hb dX9_may_64 (by decide) ?_
                  obtain rfl := Option.some.inj hf
                  exact W.zret (ty := .boolean) hx hb hr rfl (fun t ht hW => ⟨⟨_, (), rfl, ⟨rfl, rfl⟩, trivial⟩, hS.F ht⟩) hS.2.2 dX9_may_94
                · replace hf := x_ip c_22 hf
                  refine lv_iconst (v := 1) hx hb dX9_may_59 (by decide) ?_
                  refine lv_goto (tgt := 94) hx hb dX9_may_60 (by decide) ?_
                  obtain rfl := Option.some.inj hf
                  exact W.zret (ty := .boolean) hx hb hr rfl (fun t ht hW => ⟨⟨_, (), rfl, ⟨rfl, rfl⟩, trivial⟩, hS.F ht⟩) hS.2.2 dX9_may_94
      · replace hf := x_in c_5 hf
        refine lv_iconst (v := 0) hx hb dX9_may_23 (by decide) ?_
        obtain rfl := Option.some.inj hf
        exact W.zret (ty := .boolean) hx hb hr rfl (fun t ht hW => ⟨⟨_, (), rfl, ⟨rfl, rfl⟩, trivial⟩, hS.F ht⟩) hS.2.2 dX9_may_24
  · replace hf := x_ip c_1 hf
    refine lv_iconst (v := 1) hx hb dX9_may_5 (by decide) ?_
    obtain rfl := Option.some.inj hf
    exact W.zret (ty := .boolean) hx hb hr rfl (fun t ht hW => ⟨⟨_, (), rfl, ⟨rfl, rfl⟩, trivial⟩, hS.F ht⟩) hS.2.2 dX9_may_6

def f_X9_may (g9_4 : Nat → Int32) (g9_5 : Nat → Int32) (p1 : Int32) (p2 : Int32) : Option (Int32) := if p1 = p2 then some 1 else (f_X9_isPrimitive p1) >>= (fun r_2 => if r_2 = (0 : Int32) then (f_X9_isPrimitive p2) >>= (fun r_4 => if r_4 = (0 : Int32) then if (p2 >>> (16 &&& 31)) = (0 : Int32) then if (p1 >>> (16 &&& 31)) ≤ (0 : Int32) then if p2 = (0 : Int32) then some 1 else if x_gd p2 200 = true then if (g9_5 (Int32.toNatClampNeg p2)) = (0 : Int32) then (f_X9_below g9_4 p1 p2) >>= (fun r_20 => if r_20 = (0 : Int32) then some 0 else some 1) else some 1 else none else if p2 = (0 : Int32) then some 1 else if p2 = (2 : Int32) then some 1 else if p2 = (3 : Int32) then some 1 else some 0 else if (p1 >>> (16 &&& 31)) = (p2 >>> (16 &&& 31)) then if (65528 : Int32) ≤ (p1 &&& 65535) then some 0 else if (65528 : Int32) ≤ (p2 &&& 65535) then some 0 else (f_X9_may_0 g9_4 g9_5 (p1 &&& 65535) (p2 &&& 65535)) >>= (fun r_14 => if r_14 = (0 : Int32) then some 0 else some 1) else if (p1 >>> (16 &&& 31)) ≤ (p2 >>> (16 &&& 31)) then some 0 else if (p2 &&& 65535) = (0 : Int32) then some 1 else if (p2 &&& 65535) = (2 : Int32) then some 1 else if (p2 &&& 65535) = (3 : Int32) then some 1 else some 0 else some 0) else some 0)
theorem i_X9_may_X9 : ∀ w ∈ wsX90, w ∈ wsX9_may := fun _ h => List.mem_cons_of_mem _ (List.mem_append_right _ h)
set_option maxHeartbeats 4000000 in
set_option maxRecDepth 100000 in
theorem c_X9_may (l : Launch) (dC : Nat → ClassId) (dI : Nat → Nat → Nat) (cyI cyZ cyJ : ClassId) (sz : Nat) (o9 : Nat) (v9_0 : Int32) (v9_1 : Int32) (v9_2 : Int32) (v9_3 : Int32) (a9_4 : Nat) (a9_5 : Nat) (a9_6 : Nat) (a9_7 : Nat) (a9_8 : Nat) (a9_9 : Nat) (a9_10 : Nat) (a9_11 : Nat) (a9_12 : Nat) (v9_13 : Int32) (v9_14 : Int32) (v9_15 : Int32) (v9_16 : Int32) (v9_17 : Int32) (v9_18 : Int32) (a9_19 : Nat) (v9_20 : Int32) (v9_21 : Int32) (v9_22 : Int32) (a9_23 : Nat) (a9_24 : Nat) (a9_25 : Nat) (a9_26 : Nat) (a9_27 : Nat) (a9_28 : Nat) (a9_29 : Nat) (a9_30 : Nat) (a9_31 : Nat) (a9_32 : Nat) (a9_33 : Nat) (a9_34 : Nat) (v9_35 : Int32) (v9_36 : Int32) (a9_37 : Nat) (a9_38 : Nat) (a9_39 : Nat) (a9_40 : Nat) (a9_41 : Nat) (v9_42 : Int32) (a9_43 : Nat) (a9_44 : Nat) (a9_45 : Nat) (a9_46 : Nat) (a9_47 : Nat) (v9_48 : Int32) (v9_49 : Int32) (v9_50 : Int32) (v9_51 : Int32) (a9_52 : Nat) (a9_53 : Nat) (v9_54 : Int32) (v9_55 : Int32) (a9_56 : Nat) (a9_57 : Nat) (v9_58 : Int32) (a9_59 : Nat) (a9_60 : Nat) (a9_61 : Nat) (g9_4 : Nat → Int32) (g9_5 : Nat → Int32) (p1 : Int32) (p2 : Int32) (R : Int32) (hf : f_X9_may g9_4 g9_5 p1 p2 = some R) : Met l yX9_may wsX9_may ({ frames := 2, cells := 0, slots := 0, locals := 49 }) (va_Pc [.ref o9, .int p1, .int p2] (x_Pre (dC, dI) (x_T cyI cyZ cyJ) [(o9, .inr (9, x_O9 v9_0 v9_1 v9_2 v9_3 a9_4 a9_5 a9_6 a9_7 a9_8 a9_9 a9_10 a9_11 a9_12 v9_13 v9_14 v9_15 v9_16 v9_17 v9_18 a9_19 v9_20 v9_21 v9_22 a9_23 a9_24 a9_25 a9_26 a9_27 a9_28 a9_29 a9_30 a9_31 a9_32 a9_33 a9_34 v9_35 v9_36 a9_37 a9_38 a9_39 a9_40 a9_41 v9_42 a9_43 a9_44 a9_45 a9_46 a9_47 v9_48 v9_49 v9_50 v9_51 a9_52 a9_53 v9_54 v9_55 a9_56 a9_57 v9_58 a9_59 a9_60 a9_61)), (a9_4, .inl (cyI, 200, .inl g9_4)), (a9_5, .inl (cyZ, 200, .inl g9_5))] sz)) (va_Qi (fun (r : Int32) (_ : Unit) => r = R ∧ x_nb r) (fun _ _ => True) (x_new sz)) 0 0 (x_new sz) := by
  refine Met.ofW (cc := cX9_may) (maxL := 7) (ret := (some .boolean)) (by decide) rfl ?_
  intro p e s m args below meth c s₁ B hml hv
  obtain ⟨rfl, hsz, hP, hK, hN⟩ := hv
  have hx := B.exec
  have hb := B.bytes
  have hr := B.returns
  have hts := atoms_spec (ws := wsX9_may) B.pre
  have hown : s.vm.findClass RX9 = some m.cls := findClass_of_methodNamed B.named
  have k_1 := hts (.constant RX9 142 (65535)) (by decide +kernel)
  have k_2 := hts (.constant RX9 140 (65528)) (by decide +kernel)
  have k_3 := hts (.fieldLink RX9 20 "FlowJudgeModel" "face" "[Z") (by decide +kernel)
  subst hsz
  have hA : ∀ q : Nat, s.heap.size ≤ q → x_new s.heap.size q := fun _ h => h
  have hS : va_S (x_new s.heap.size) s.heap s.heap [] := va_S.rf
  have hP : va_P (dC, dI) vwCl [(o9, .inr (9, x_O9 v9_0 v9_1 v9_2 v9_3 a9_4 a9_5 a9_6 a9_7 a9_8 a9_9 a9_10 a9_11 a9_12 v9_13 v9_14 v9_15 v9_16 v9_17 v9_18 a9_19 v9_20 v9_21 v9_22 a9_23 a9_24 a9_25 a9_26 a9_27 a9_28 a9_29 a9_30 a9_31 a9_32 a9_33 a9_34 v9_35 v9_36 a9_37 a9_38 a9_39 a9_40 a9_41 v9_42 a9_43 a9_44 a9_45 a9_46 a9_47 v9_48 v9_49 v9_50 v9_51 a9_52 a9_53 v9_54 v9_55 a9_56 a9_57 v9_58 a9_59 a9_60 a9_61)), (a9_4, .inl (cyI, 200, .inl g9_4)), (a9_5, .inl (cyZ, 200, .inl g9_5))] s.heap := hP
  have hl := lv_entry ([.ref o9, .int p1, .int p2]) (n := 7) (Nat.le_of_ble_eq_true rfl)
  rw [lg_entry_eq]
  generalize (lg_sl ([.ref o9, .int p1, .int p2]) ++ List.replicate (7 - (lg_sl ([.ref o9, .int p1, .int p2])).length) Slot.unset).toArray = ls at hl ⊢
  have hl : lv_has ls 7 [(0, .ref o9), (1, .int p1), (2, .int p2)] := hl
  obtain ⟨H, hH⟩ : ∃ z, z = s.heap := ⟨_, rfl⟩
  refine x_here hH ?_
  have hP : va_P (dC, dI) vwCl [(o9, .inr (9, x_O9 v9_0 v9_1 v9_2 v9_3 a9_4 a9_5 a9_6 a9_7 a9_8 a9_9 a9_10 a9_11 a9_12 v9_13 v9_14 v9_15 v9_16 v9_17 v9_18 a9_19 v9_20 v9_21 v9_22 a9_23 a9_24 a9_25 a9_26 a9_27 a9_28 a9_29 a9_30 a9_31 a9_32 a9_33 a9_34 v9_35 v9_36 a9_37 a9_38 a9_39 a9_40 a9_41 v9_42 a9_43 a9_44 a9_45 a9_46 a9_47 v9_48 v9_49 v9_50 v9_51 a9_52 a9_53 v9_54 v9_55 a9_56 a9_57 v9_58 a9_59 a9_60 a9_61)), (a9_4, .inl (cyI, 200, .inl g9_4)), (a9_5, .inl (cyZ, 200, .inl g9_5))] H := by rw [hH]; exact hP
  have hS : va_S (x_new s.heap.size) s.heap H [] := by rw [hH]; exact va_S.rf
  clear hH
  obtain ⟨locs, hlo⟩ : ∃ z : List Loc, z = [] := ⟨_, rfl⟩
  refine x_herl hlo ?_
  have hS : va_S (x_new s.heap.size) s.heap H locs := by rw [hlo]; exact hS
  clear hlo
  unfold f_X9_may at hf
  refine lv_iload_n hx hb dX9_may_0 rfl (lv_at hl 1 rfl) ?_
  refine lv_iload_n hx hb dX9_may_1 rfl (lv_at hl 2 rfl) ?_
  refine lv_icmp_ne (tgt := 7) hx hb dX9_may_2 (by decide) (fun c_1 => ?_) (fun c_1 => ?_)
  · replace hf := x_in c_1 hf
    refine lv_aload_n hx hb dX9_may_7 rfl (lv_at hl 0 rfl) ?_
    refine lv_iload_n hx hb dX9_may_8 rfl (lv_at hl 1 rfl) ?_
    obtain ⟨r_2, h_2, hf⟩ := x_bi hf
    have hPc := hP.sub (ws' := [(o9, .inr (9, x_O9 v9_0 v9_1 v9_2 v9_3 a9_4 a9_5 a9_6 a9_7 a9_8 a9_9 a9_10 a9_11 a9_12 v9_13 v9_14 v9_15 v9_16 v9_17 v9_18 a9_19 v9_20 v9_21 v9_22 a9_23 a9_24 a9_25 a9_26 a9_27 a9_28 a9_29 a9_30 a9_31 a9_32 a9_33 a9_34 v9_35 v9_36 a9_37 a9_38 a9_39 a9_40 a9_41 v9_42 a9_43 a9_44 a9_45 a9_46 a9_47 v9_48 v9_49 v9_50 v9_51 a9_52 a9_53 v9_54 v9_55 a9_56 a9_57 v9_58 a9_59 a9_60 a9_61))]) [0] rfl
    refine va_calli (va_runV (As := [.int p1]) (rest := []) ⟨hx, hb, hml, hown, hts⟩ (c_X9_isPrimitive l dC dI cyI cyZ cyJ H.size o9 v9_0 v9_1 v9_2 v9_3 a9_4 a9_5 a9_6 a9_7 a9_8 a9_9 a9_10 a9_11 a9_12 v9_13 v9_14 v9_15 v9_16 v9_17 v9_18 a9_19 v9_20 v9_21 v9_22 a9_23 a9_24 a9_25 a9_26 a9_27 a9_28 a9_29 a9_30 a9_31 a9_32 a9_33 a9_34 v9_35 v9_36 a9_37 a9_38 a9_39 a9_40 a9_41 v9_42 a9_43 a9_44 a9_45 a9_46 a9_47 v9_48 v9_49 v9_50 v9_51 a9_52 a9_53 v9_54 v9_55 a9_56 a9_57 v9_58 a9_59 a9_60 a9_61 p1 r_2 h_2) (cwV 1 hts gX9_may_X9_isPrimitive rfl rfl rfl (by decide +kernel) ⟨Nat.le_of_ble_eq_true rfl, Nat.le_of_ble_eq_true rfl⟩) (x_pV hN hK hPc (ci := 9) (q0 := 0) rfl rfl) rfl rfl hl.1 rfl (lv_room (Nat.le_of_ble_eq_true rfl)) dX9_may_9 ⟨Nat.le_of_ble_eq_true rfl, Nat.le_of_ble_eq_true rfl⟩) hS x_nA (x_nf hA hS) (fun q_2 u t H1 locs ht hvm hw hB hz1 hk1 hS => ?_)
    have hP := x_kp hP hk1
    clear ht hvm hB hz1 hk1 t u hPc
    generalize H1 = H at hP hS ⊢
    obtain ⟨hw, b_2⟩ := hw
    obtain rfl := hw.symm
    refine lv_if_ne (tgt := 23) hx hb dX9_may_12 (by decide) (fun c_3 => ?_) (fun c_3 => ?_)
    · replace hf := x_in c_3 hf
      refine lv_iconst (v := 0) hx hb dX9_may_23 (by decide) ?_
      obtain rfl := Option.some.inj hf
      exact W.zret (ty := .boolean) hx hb hr rfl (fun t ht hW => ⟨⟨_, (), rfl, ⟨rfl, rfl⟩, trivial⟩, hS.F ht⟩) hS.2.2 dX9_may_24
    · replace hf := x_ip c_3 hf
      refine lv_aload_n hx hb dX9_may_15 rfl (lv_at hl 0 rfl) ?_
      refine lv_iload_n hx hb dX9_may_16 rfl (lv_at hl 2 rfl) ?_
      obtain ⟨r_4, h_4, hf⟩ := x_bi hf
      have hPc := hP.sub (ws' := [(o9, .inr (9, x_O9 v9_0 v9_1 v9_2 v9_3 a9_4 a9_5 a9_6 a9_7 a9_8 a9_9 a9_10 a9_11 a9_12 v9_13 v9_14 v9_15 v9_16 v9_17 v9_18 a9_19 v9_20 v9_21 v9_22 a9_23 a9_24 a9_25 a9_26 a9_27 a9_28 a9_29 a9_30 a9_31 a9_32 a9_33 a9_34 v9_35 v9_36 a9_37 a9_38 a9_39 a9_40 a9_41 v9_42 a9_43 a9_44 a9_45 a9_46 a9_47 v9_48 v9_49 v9_50 v9_51 a9_52 a9_53 v9_54 v9_55 a9_56 a9_57 v9_58 a9_59 a9_60 a9_61))]) [0] rfl
      refine va_calli (va_runV (As := [.int p2]) (rest := []) ⟨hx, hb, hml, hown, hts⟩ (c_X9_isPrimitive l dC dI cyI cyZ cyJ H.size o9 v9_0 v9_1 v9_2 v9_3 a9_4 a9_5 a9_6 a9_7 a9_8 a9_9 a9_10 a9_11 a9_12 v9_13 v9_14 v9_15 v9_16 v9_17 v9_18 a9_19 v9_20 v9_21 v9_22 a9_23 a9_24 a9_25 a9_26 a9_27 a9_28 a9_29 a9_30 a9_31 a9_32 a9_33 a9_34 v9_35 v9_36 a9_37 a9_38 a9_39 a9_40 a9_41 v9_42 a9_43 a9_44 a9_45 a9_46 a9_47 v9_48 v9_49 v9_50 v9_51 a9_52 a9_53 v9_54 v9_55 a9_56 a9_57 v9_58 a9_59 a9_60 a9_61 p2 r_4 h_4) (cwV 1 hts gX9_may_X9_isPrimitive rfl rfl rfl (by decide +kernel) ⟨Nat.le_of_ble_eq_true rfl, Nat.le_of_ble_eq_true rfl⟩) (x_pV hN hK hPc (ci := 9) (q0 := 0) rfl rfl) rfl rfl hl.1 rfl (lv_room (Nat.le_of_ble_eq_true rfl)) dX9_may_17 ⟨Nat.le_of_ble_eq_true rfl, Nat.le_of_ble_eq_true rfl⟩) hS x_nA (x_nf hA hS) (fun q_4 u t H1 locs ht hvm hw hB hz1 hk1 hS => ?_)
      have hP := x_kp hP hk1
      clear ht hvm hB hz1 hk1 t u hPc
      generalize H1 = H at hP hS ⊢
      obtain ⟨hw, b_4⟩ := hw
      obtain rfl := hw.symm
      refine lv_if_eq (tgt := 25) hx hb dX9_may_20 (by decide) (fun c_5 => ?_) (fun c_5 => ?_)
      · replace hf := x_ip c_5 hf
        refine lv_iload_n hx hb dX9_may_25 rfl (lv_at hl 1 rfl) ?_
        refine lv_bipush (v := 16) hx hb dX9_may_26 (by decide) ?_
        refine lv_ishr hx hb dX9_may_28 ?_
        refine lv_istore_n (lv' := [(3, .int (p1 >>> (16 &&& 31))), (0, .ref o9), (1, .int p1), (2, .int p2)]) hx hb dX9_may_29 rfl hl (by decide) rfl (fun ls hl => ?_)
        refine lv_iload_n hx hb dX9_may_30 rfl (lv_at hl 3 rfl) ?_
        refine lv_bipush (v := 16) hx hb dX9_may_31 (by decide) ?_
        refine lv_ishr hx hb dX9_may_33 ?_
        refine lv_istore (lv' := [(4, .int (p2 >>> (16 &&& 31))), (3, .int (p1 >>> (16 &&& 31))), (0, .ref o9), (1, .int p1), (2, .int p2)]) hx hb dX9_may_34 hl (by decide) rfl (fun ls hl => ?_)
        refine lv_iload hx hb dX9_may_36 (lv_at hl 0 rfl) ?_
        refine lv_if_ne (tgt := 95) hx hb dX9_may_38 (by decide) (fun c_6 => ?_) (fun c_6 => ?_)
        · replace hf := x_in c_6 hf
          refine lv_iload_n hx hb dX9_may_95 rfl (lv_at hl 3 rfl) ?_
          refine lv_ldc (v := 65535) hx hb hown k_1 dX9_may_96 ?_
          refine lv_iand hx hb dX9_may_98 ?_
          refine lv_istore (lv' := [(5, .int (p1 &&& 65535)), (4, .int (p2 >>> (16 &&& 31))), (3, .int (p1 >>> (16 &&& 31))), (0, .ref o9), (1, .int p1), (2, .int p2)]) hx hb dX9_may_99 hl (by decide) rfl (fun ls hl => ?_)
          refine lv_iload_n hx hb dX9_may_101 rfl (lv_at hl 5 rfl) ?_
          refine lv_ldc (v := 65535) hx hb hown k_1 dX9_may_102 ?_
          refine lv_iand hx hb dX9_may_104 ?_
          refine lv_istore (lv' := [(6, .int (p2 &&& 65535)), (5, .int (p1 &&& 65535)), (4, .int (p2 >>> (16 &&& 31))), (3, .int (p1 >>> (16 &&& 31))), (0, .ref o9), (1, .int p1), (2, .int p2)]) hx hb dX9_may_105 hl (by decide) rfl (fun ls hl => ?_)
          refine lv_iload_n hx hb dX9_may_107 rfl (lv_at hl 3 rfl) ?_
          refine lv_iload hx hb dX9_may_108 (lv_at hl 2 rfl) ?_
          refine lv_icmp_ne (tgt := 144) hx hb dX9_may_110 (by decide) (fun c_7 => ?_) (fun c_7 => ?_)
          · replace hf := x_in c_7 hf
            refine lv_iload_n hx hb dX9_may_144 rfl (lv_at hl 3 rfl) ?_
            refine lv_iload hx hb dX9_may_145 (lv_at hl 2 rfl) ?_
            refine lv_icmp_le (tgt := 171) hx hb dX9_may_147 (by decide) (fun c_8 => ?_) (fun c_8 => ?_)
            · replace hf := x_ip c_8 hf
              refine lv_iconst (v := 0) hx hb dX9_may_171 (by decide) ?_
              obtain rfl := Option.some.inj hf
              exact W.zret (ty := .boolean) hx hb hr rfl (fun t ht hW => ⟨⟨_, (), rfl, ⟨rfl, rfl⟩, trivial⟩, hS.F ht⟩) hS.2.2 dX9_may_172
            · replace hf := x_in c_8 hf
              refine lv_iload hx hb dX9_may_150 (lv_at hl 0 rfl) ?_
              refine lv_if_eq (tgt := 167) hx hb dX9_may_152 (by decide) (fun c_9 => ?_) (fun c_9 => ?_)
              · replace hf := x_ip c_9 hf
                refine lv_iconst (v := 1) hx hb dX9_may_167 (by decide) ?_
                refine lv_goto (tgt := 172) hx hb dX9_may_168 (by decide) ?_
                obtain rfl := Option.some.inj hf
                exact W.zret (ty := .boolean) hx hb hr rfl (fun t ht hW => ⟨⟨_, (), rfl, ⟨rfl, rfl⟩, trivial⟩, hS.F ht⟩) hS.2.2 dX9_may_172
              · replace hf := x_in c_9 hf
                refine lv_iload hx hb dX9_may_155 (lv_at hl 0 rfl) ?_
                refine lv_iconst (v := 2) hx hb dX9_may_157 (by decide) ?_
                refine lv_icmp_eq (tgt := 167) hx hb dX9_may_158 (by decide) (fun c_10 => ?_) (fun c_10 => ?_)
                · replace hf := x_ip c_10 hf
                  refine lv_iconst (v := 1) hx hb dX9_may_167 (by decide) ?_
                  refine lv_goto (tgt := 172) hx hb dX9_may_168 (by decide) ?_
                  obtain rfl := Option.some.inj hf
                  exact W.zret (ty := .boolean) hx hb hr rfl (fun t ht hW => ⟨⟨_, (), rfl, ⟨rfl, rfl⟩, trivial⟩, hS.F ht⟩) hS.2.2 dX9_may_172
                · replace hf := x_in c_10 hf
                  refine lv_iload hx hb dX9_may_161 (lv_at hl 0 rfl) ?_
                  refine lv_iconst (v := 3) hx hb dX9_may_163 (by decide) ?_
                  refine lv_icmp_ne (tgt := 171) hx hb dX9_may_164 (by decide) (fun c_11 => ?_) (fun c_11 => ?_)
                  · replace hf := x_in c_11 hf
                    refine lv_iconst (v := 0) hx hb dX9_may_171 (by decide) ?_
                    obtain rfl := Option.some.inj hf
                    exact W.zret (ty := .boolean) hx hb hr rfl (fun t ht hW => ⟨⟨_, (), rfl, ⟨rfl, rfl⟩, trivial⟩, hS.F ht⟩) hS.2.2 dX9_may_172
                  · replace hf := x_ip c_11 hf
                    refine lv_iconst (v := 1) hx hb dX9_may_167 (by decide) ?_
                    refine lv_goto (tgt := 172) hx hb dX9_may_168 (by decide) ?_
                    obtain rfl := Option.some.inj hf
                    exact W.zret (ty := .boolean) hx hb hr rfl (fun t ht hW => ⟨⟨_, (), rfl, ⟨rfl, rfl⟩, trivial⟩, hS.F ht⟩) hS.2.2 dX9_may_172
          · replace hf := x_ip c_7 hf
            refine lv_iload hx hb dX9_may_113 (lv_at hl 1 rfl) ?_
            refine lv_ldc (v := 65528) hx hb hown k_2 dX9_may_115 ?_
            refine lv_icmp_ge (tgt := 142) hx hb dX9_may_117 (by decide) (fun c_12 => ?_) (fun c_12 => ?_)
            · replace hf := x_ip c_12 hf
              refine lv_iconst (v := 0) hx hb dX9_may_142 (by decide) ?_
              obtain rfl := Option.some.inj hf
              exact W.zret (ty := .boolean) hx hb hr rfl (fun t ht hW => ⟨⟨_, (), rfl, ⟨rfl, rfl⟩, trivial⟩, hS.F ht⟩) hS.2.2 dX9_may_143
            · replace hf := x_in c_12 hf
              refine lv_iload hx hb dX9_may_120 (lv_at hl 0 rfl) ?_
              refine lv_ldc (v := 65528) hx hb hown k_2 dX9_may_122 ?_
              refine lv_icmp_ge (tgt := 142) hx hb dX9_may_124 (by decide) (fun c_13 => ?_) (fun c_13 => ?_)
              · replace hf := x_ip c_13 hf
                refine lv_iconst (v := 0) hx hb dX9_may_142 (by decide) ?_
                obtain rfl := Option.some.inj hf
                exact W.zret (ty := .boolean) hx hb hr rfl (fun t ht hW => ⟨⟨_, (), rfl, ⟨rfl, rfl⟩, trivial⟩, hS.F ht⟩) hS.2.2 dX9_may_143
              · replace hf := x_in c_13 hf
                refine lv_aload_n hx hb dX9_may_127 rfl (lv_at hl 4 rfl) ?_
                refine lv_iload hx hb dX9_may_128 (lv_at hl 1 rfl) ?_
                refine lv_iload hx hb dX9_may_130 (lv_at hl 0 rfl) ?_
                obtain ⟨r_14, h_14, hf⟩ := x_bi hf
                have hPc := hP.sub (ws' := [(o9, .inr (9, x_O9 v9_0 v9_1 v9_2 v9_3 a9_4 a9_5 a9_6 a9_7 a9_8 a9_9 a9_10 a9_11 a9_12 v9_13 v9_14 v9_15 v9_16 v9_17 v9_18 a9_19 v9_20 v9_21 v9_22 a9_23 a9_24 a9_25 a9_26 a9_27 a9_28 a9_29 a9_30 a9_31 a9_32 a9_33 a9_34 v9_35 v9_36 a9_37 a9_38 a9_39 a9_40 a9_41 v9_42 a9_43 a9_44 a9_45 a9_46 a9_47 v9_48 v9_49 v9_50 v9_51 a9_52 a9_53 v9_54 v9_55 a9_56 a9_57 v9_58 a9_59 a9_60 a9_61)), (a9_4, .inl (cyI, 200, .inl g9_4)), (a9_5, .inl (cyZ, 200, .inl g9_5))]) [0, 1, 2] rfl
                refine va_calli (va_runV (As := [.int (p1 &&& 65535), .int (p2 &&& 65535)]) (rest := []) ⟨hx, hb, hml, hown, hts⟩ (c_X9_may_0 l dC dI cyI cyZ cyJ H.size o9 v9_0 v9_1 v9_2 v9_3 a9_4 a9_5 a9_6 a9_7 a9_8 a9_9 a9_10 a9_11 a9_12 v9_13 v9_14 v9_15 v9_16 v9_17 v9_18 a9_19 v9_20 v9_21 v9_22 a9_23 a9_24 a9_25 a9_26 a9_27 a9_28 a9_29 a9_30 a9_31 a9_32 a9_33 a9_34 v9_35 v9_36 a9_37 a9_38 a9_39 a9_40 a9_41 v9_42 a9_43 a9_44 a9_45 a9_46 a9_47 v9_48 v9_49 v9_50 v9_51 a9_52 a9_53 v9_54 v9_55 a9_56 a9_57 v9_58 a9_59 a9_60 a9_61 g9_4 g9_5 (p1 &&& 65535) (p2 &&& 65535) r_14 h_14) (cwV 2 hts gX9_may_X9_may rfl rfl rfl (by decide +kernel) ⟨Nat.le_of_ble_eq_true rfl, Nat.le_of_ble_eq_true rfl⟩) (x_pV hN hK hPc (ci := 9) (q0 := 0) rfl rfl) rfl rfl hl.1 rfl (lv_room (Nat.le_of_ble_eq_true rfl)) dX9_may_132 ⟨Nat.le_of_ble_eq_true rfl, Nat.le_of_ble_eq_true rfl⟩) hS x_nA (x_nf hA hS) (fun q_14 u t H1 locs ht hvm hw hB hz1 hk1 hS => ?_)
                have hP := x_kp hP hk1
                clear ht hvm hB hz1 hk1 t u hPc
                generalize H1 = H at hP hS ⊢
                obtain ⟨hw, b_14⟩ := hw
                obtain rfl := hw.symm
                refine lv_if_eq (tgt := 142) hx hb dX9_may_135 (by decide) (fun c_15 => ?_) (fun c_15 => ?_)
                · replace hf := x_ip c_15 hf
                  refine lv_iconst (v := 0) hx hb dX9_may_142 (by decide) ?_
                  obtain rfl := Option.some.inj hf
                  exact W.zret (ty := .boolean) hx hb hr rfl (fun t ht hW => ⟨⟨_, (), rfl, ⟨rfl, rfl⟩, trivial⟩, hS.F ht⟩) hS.2.2 dX9_may_143
                · replace hf := x_in c_15 hf
                  refine lv_iconst (v := 1) hx hb dX9_may_138 (by decide) ?_
                  refine lv_goto (tgt := 143) hx hb dX9_may_139 (by decide) ?_
                  obtain rfl := Option.some.inj hf
                  exact W.zret (ty := .boolean) hx hb hr rfl (fun t ht hW => ⟨⟨_, (), rfl, ⟨rfl, rfl⟩, trivial⟩, hS.F ht⟩) hS.2.2 dX9_may_143
        · replace hf := x_ip c_6 hf
          refine lv_iload_n hx hb dX9_may_41 rfl (lv_at hl 1 rfl) ?_
          refine lv_if_le (tgt := 67) hx hb dX9_may_42 (by decide) (fun c_16 => ?_) (fun c_16 => ?_)
          · replace hf := x_ip c_16 hf
            refine lv_iload_n hx hb dX9_may_67 rfl (lv_at hl 4 rfl) ?_
            refine lv_if_eq (tgt := 89) hx hb dX9_may_68 (by decide) (fun c_17 => ?_) (fun c_17 => ?_)
            · replace hf := x_ip c_17 hf
              refine lv_iconst (v := 1) hx hb dX9_may_89 (by decide) ?_
              refine lv_goto (tgt := 94) hx hb dX9_may_90 (by decide) ?_
              obtain rfl := Option.some.inj hf
              exact W.zret (ty := .boolean) hx hb hr rfl (fun t ht hW => ⟨⟨_, (), rfl, ⟨rfl, rfl⟩, trivial⟩, hS.F ht⟩) hS.2.2 dX9_may_94
            · replace hf := x_in c_17 hf
              refine lv_aload_n hx hb dX9_may_71 rfl (lv_at hl 2 rfl) ?_
              refine va_get (D := (dC, dI)) (ci := 9) (v := .ref a9_5) (C := RX9) (T := TX9) (N := 62) hx hb hts i_X9_may_X9 hown hK hP 0 rfl rfl 5 (by decide) k_3 (fun _ h9 => h9) rfl dX9_may_72 ?_
              refine lv_iload_n hx hb dX9_may_75 rfl (lv_at hl 4 rfl) ?_
              obtain ⟨g_18, hf⟩ := x_gu hf
              refine va_zald hx hb hK hP 2 1 rfl rfl (x_gdin g_18) dX9_may_76 ?_
              refine lv_if_ne (tgt := 89) hx hb dX9_may_77 (by decide) (fun c_19 => ?_) (fun c_19 => ?_)
              · replace hf := x_in c_19 hf
                refine lv_iconst (v := 1) hx hb dX9_may_89 (by decide) ?_
                refine lv_goto (tgt := 94) hx hb dX9_may_90 (by decide) ?_
                obtain rfl := Option.some.inj hf
                exact W.zret (ty := .boolean) hx hb hr rfl (fun t ht hW => ⟨⟨_, (), rfl, ⟨rfl, rfl⟩, trivial⟩, hS.F ht⟩) hS.2.2 dX9_may_94
              · replace hf := x_ip c_19 hf
                refine lv_aload_n hx hb dX9_may_80 rfl (lv_at hl 2 rfl) ?_
                refine lv_iload_n hx hb dX9_may_81 rfl (lv_at hl 3 rfl) ?_
                refine lv_iload_n hx hb dX9_may_82 rfl (lv_at hl 4 rfl) ?_
                obtain ⟨r_20, h_20, hf⟩ := x_bi hf
                have hPc := hP.sub (ws' := [(o9, .inr (9, x_O9 v9_0 v9_1 v9_2 v9_3 a9_4 a9_5 a9_6 a9_7 a9_8 a9_9 a9_10 a9_11 a9_12 v9_13 v9_14 v9_15 v9_16 v9_17 v9_18 a9_19 v9_20 v9_21 v9_22 a9_23 a9_24 a9_25 a9_26 a9_27 a9_28 a9_29 a9_30 a9_31 a9_32 a9_33 a9_34 v9_35 v9_36 a9_37 a9_38 a9_39 a9_40 a9_41 v9_42 a9_43 a9_44 a9_45 a9_46 a9_47 v9_48 v9_49 v9_50 v9_51 a9_52 a9_53 v9_54 v9_55 a9_56 a9_57 v9_58 a9_59 a9_60 a9_61)), (a9_4, .inl (cyI, 200, .inl g9_4))]) [0, 1] rfl
                refine va_calli (va_runV (As := [.int p1, .int p2]) (rest := []) ⟨hx, hb, hml, hown, hts⟩ (c_X9_below l dC dI cyI cyZ cyJ H.size o9 v9_0 v9_1 v9_2 v9_3 a9_4 a9_5 a9_6 a9_7 a9_8 a9_9 a9_10 a9_11 a9_12 v9_13 v9_14 v9_15 v9_16 v9_17 v9_18 a9_19 v9_20 v9_21 v9_22 a9_23 a9_24 a9_25 a9_26 a9_27 a9_28 a9_29 a9_30 a9_31 a9_32 a9_33 a9_34 v9_35 v9_36 a9_37 a9_38 a9_39 a9_40 a9_41 v9_42 a9_43 a9_44 a9_45 a9_46 a9_47 v9_48 v9_49 v9_50 v9_51 a9_52 a9_53 v9_54 v9_55 a9_56 a9_57 v9_58 a9_59 a9_60 a9_61 g9_4 p1 p2 r_20 h_20) (cwV 2 hts gX9_may_X9_below rfl rfl rfl (by decide +kernel) ⟨Nat.le_of_ble_eq_true rfl, Nat.le_of_ble_eq_true rfl⟩) (x_pV hN hK hPc (ci := 9) (q0 := 0) rfl rfl) rfl rfl hl.1 rfl (lv_room (Nat.le_of_ble_eq_true rfl)) dX9_may_83 ⟨Nat.le_of_ble_eq_true rfl, Nat.le_of_ble_eq_true rfl⟩) hS x_nA (x_nf hA hS) (fun q_20 u t H1 locs ht hvm hw hB hz1 hk1 hS => ?_)
                have hP := x_kp hP hk1
                clear ht hvm hB hz1 hk1 t u hPc
                generalize H1 = H at hP hS ⊢
                obtain ⟨hw, b_20⟩ := hw
                obtain rfl := hw.symm
                refine lv_if_eq (tgt := 93) hx hb dX9_may_86 (by decide) (fun c_21 => ?_) (fun c_21 => ?_)
                · replace hf := x_ip c_21 hf
                  refine lv_iconst (v := 0) hx hb dX9_may_93 (by decide) ?_
                  obtain rfl := Option.some.inj hf
                  exact W.zret (ty := .boolean) hx hb hr rfl (fun t ht hW => ⟨⟨_, (), rfl, ⟨rfl, rfl⟩, trivial⟩, hS.F ht⟩) hS.2.2 dX9_may_94
                · replace hf := x_in c_21 hf
                  refine lv_iconst (v := 1) hx hb dX9_may_89 (by decide) ?_
                  refine lv_goto (tgt := 94) hx hb dX9_may_90 (by decide) ?_
                  obtain rfl := Option.some.inj hf
                  exact W.zret (ty := .boolean) hx hb hr rfl (fun t ht hW => ⟨⟨_, (), rfl, ⟨rfl, rfl⟩, trivial⟩, hS.F ht⟩) hS.2.2 dX9_may_94
          · replace hf := x_in c_16 hf
            refine lv_iload_n hx hb dX9_may_45 rfl (lv_at hl 4 rfl) ?_
            refine lv_if_eq (tgt := 59) hx hb dX9_may_46 (by decide) (fun c_22 => ?_) (fun c_22 => ?_)
            · replace hf := x_ip c_22 hf
              refine lv_iconst (v := 1) hx hb dX9_may_59 (by decide) ?_
              refine lv_goto (tgt := 94) hx hb dX9_may_60 (by decide) ?_
              obtain rfl := Option.some.inj hf
              exact W.zret (ty := .boolean) hx hb hr rfl (fun t ht hW => ⟨⟨_, (), rfl, ⟨rfl, rfl⟩, trivial⟩, hS.F ht⟩) hS.2.2 dX9_may_94
            · replace hf := x_in c_22 hf
              refine lv_iload_n hx hb dX9_may_49 rfl (lv_at hl 4 rfl) ?_
              refine lv_iconst (v := 2) hx hb dX9_may_50 (by decide) ?_
              refine lv_icmp_eq (tgt := 59) hx hb dX9_may_51 (by decide) (fun c_23 => ?_) (fun c_23 => ?_)
              · replace hf := x_ip c_23 hf
                refine lv_iconst (v := 1) hx hb dX9_may_59 (by decide) ?_
                refine lv_goto (tgt := 94) hx hb dX9_may_60 (by decide) ?_
                obtain rfl := Option.some.inj hf
                exact W.zret (ty := .boolean) hx hb hr rfl (fun t ht hW => ⟨⟨_, (), rfl, ⟨rfl, rfl⟩, trivial⟩, hS.F ht⟩) hS.2.2 dX9_may_94
              · replace hf := x_in c_23 hf
                refine lv_iload_n hx hb dX9_may_54 rfl (lv_at hl 4 rfl) ?_
                refine lv_iconst (v := 3) hx hb dX9_may_55 (by decide) ?_
                refine lv_icmp_ne (tgt := 63) hx hb dX9_may_56 (by decide) (fun c_24 => ?_) (fun c_24 => ?_)
                · replace hf := x_in c_24 hf
                  refine lv_iconst (v := 0) hx hb dX9_may_63 (by decide) ?_
                  refine lv_goto (tgt := 94) hx hb dX9_may_64 (by decide) ?_
                  obtain rfl := Option.some.inj hf
                  exact W.zret (ty := .boolean) hx hb hr rfl (fun t ht hW => ⟨⟨_, (), rfl, ⟨rfl, rfl⟩, trivial⟩, hS.F ht⟩) hS.2.2 dX9_may_94
                · replace hf := x_ip c_24 hf
                  refine lv_iconst (v := 1) hx hb dX9_may_59 (by decide) ?_
                  refine lv_goto (tgt := 94) hx hb dX9_may_60 (by decide) ?_
                  obtain rfl := Option.some.inj hf
                  exact W.zret (ty := .boolean) hx hb hr rfl (fun t ht hW => ⟨⟨_, (), rfl, ⟨rfl, rfl⟩, trivial⟩, hS.F ht⟩) hS.2.2 dX9_may_94
      · replace hf := x_in c_5 hf
        refine lv_iconst (v := 0) hx hb dX9_may_23 (by decide) ?_
        obtain rfl := Option.some.inj hf
        exact W.zret (ty := .boolean) hx hb hr rfl (fun t ht hW => ⟨⟨_, (), rfl, ⟨rfl, rfl⟩, trivial⟩, hS.F ht⟩) hS.2.2 dX9_may_24
  · replace hf := x_ip c_1 hf
    refine lv_iconst (v := 1) hx hb dX9_may_5 (by decide) ?_
    obtain rfl := Option.some.inj hf
    exact W.zret (ty := .boolean) hx hb hr rfl (fun t ht hW => ⟨⟨_, (), rfl, ⟨rfl, rfl⟩, trivial⟩, hS.F ht⟩) hS.2.2 dX9_may_6

def f_X9_shared_0_L (g9_4 : Nat → Int32) (g9_5 : Nat → Int32) (l6 : Int32) (z : Nat × Int32) : Option (Int32) := match z with
  | (q, l7) => if q = 0 then (f_X9_below g9_4 l6 l7) >>= (fun r_1 => if r_1 = (0 : Int32) then if x_gd l7 200 = true then (f_X9_shared_0_L g9_4 g9_5 l6 (0, g9_4 (Int32.toNatClampNeg l7))) else none else some l7) else none
partial_fixpoint
def f_X9_shared_0 (g9_4 : Nat → Int32) (g9_5 : Nat → Int32) (p1 : Int32) (p2 : Int32) : Option (Int32) := if p1 = p2 then some p1 else if (p1 >>> (16 &&& 31)) = (0 : Int32) then if (p2 >>> (16 &&& 31)) = (0 : Int32) then if x_gd (p1 &&& 65535) 200 = true then if (g9_5 (Int32.toNatClampNeg (p1 &&& 65535))) = (0 : Int32) then if x_gd (p2 &&& 65535) 200 = true then if (g9_5 (Int32.toNatClampNeg (p2 &&& 65535))) = (0 : Int32) then (f_X9_shared_0_L g9_4 g9_5 (p2 &&& 65535) (0, p1 &&& 65535)) else some 0 else none else some 0 else none else if (p1 >>> (16 &&& 31)) = (0 : Int32) then some 0 else if (p2 >>> (16 &&& 31)) = (0 : Int32) then some 0 else if (p1 >>> (16 &&& 31)) = (p2 >>> (16 &&& 31)) then if (65528 : Int32) ≤ (p1 &&& 65535) then if (p1 &&& 65535) < (65528 : Int32) then if (p2 &&& 65535) < (65528 : Int32) then some ((65536 : Int32) * (if (p2 >>> (16 &&& 31)) < (p1 >>> (16 &&& 31)) then (p2 >>> (16 &&& 31)) else (p1 >>> (16 &&& 31)))) else some ((65536 : Int32) * (if ((p2 >>> (16 &&& 31)) - (1 : Int32)) < (p1 >>> (16 &&& 31)) then ((p2 >>> (16 &&& 31)) - (1 : Int32)) else (p1 >>> (16 &&& 31)))) else if (p2 &&& 65535) < (65528 : Int32) then some ((65536 : Int32) * (if (p2 >>> (16 &&& 31)) < ((p1 >>> (16 &&& 31)) - (1 : Int32)) then (p2 >>> (16 &&& 31)) else ((p1 >>> (16 &&& 31)) - (1 : Int32)))) else some ((65536 : Int32) * (if ((p2 >>> (16 &&& 31)) - (1 : Int32)) < ((p1 >>> (16 &&& 31)) - (1 : Int32)) then ((p2 >>> (16 &&& 31)) - (1 : Int32)) else ((p1 >>> (16 &&& 31)) - (1 : Int32)))) else if (65528 : Int32) ≤ (p2 &&& 65535) then if (p1 &&& 65535) < (65528 : Int32) then if (p2 &&& 65535) < (65528 : Int32) then some ((65536 : Int32) * (if (p2 >>> (16 &&& 31)) < (p1 >>> (16 &&& 31)) then (p2 >>> (16 &&& 31)) else (p1 >>> (16 &&& 31)))) else some ((65536 : Int32) * (if ((p2 >>> (16 &&& 31)) - (1 : Int32)) < (p1 >>> (16 &&& 31)) then ((p2 >>> (16 &&& 31)) - (1 : Int32)) else (p1 >>> (16 &&& 31)))) else if (p2 &&& 65535) < (65528 : Int32) then some ((65536 : Int32) * (if (p2 >>> (16 &&& 31)) < ((p1 >>> (16 &&& 31)) - (1 : Int32)) then (p2 >>> (16 &&& 31)) else ((p1 >>> (16 &&& 31)) - (1 : Int32)))) else some ((65536 : Int32) * (if ((p2 >>> (16 &&& 31)) - (1 : Int32)) < ((p1 >>> (16 &&& 31)) - (1 : Int32)) then ((p2 >>> (16 &&& 31)) - (1 : Int32)) else ((p1 >>> (16 &&& 31)) - (1 : Int32)))) else none else if (p1 &&& 65535) < (65528 : Int32) then if (p2 &&& 65535) < (65528 : Int32) then some ((65536 : Int32) * (if (p2 >>> (16 &&& 31)) < (p1 >>> (16 &&& 31)) then (p2 >>> (16 &&& 31)) else (p1 >>> (16 &&& 31)))) else some ((65536 : Int32) * (if ((p2 >>> (16 &&& 31)) - (1 : Int32)) < (p1 >>> (16 &&& 31)) then ((p2 >>> (16 &&& 31)) - (1 : Int32)) else (p1 >>> (16 &&& 31)))) else if (p2 &&& 65535) < (65528 : Int32) then some ((65536 : Int32) * (if (p2 >>> (16 &&& 31)) < ((p1 >>> (16 &&& 31)) - (1 : Int32)) then (p2 >>> (16 &&& 31)) else ((p1 >>> (16 &&& 31)) - (1 : Int32)))) else some ((65536 : Int32) * (if ((p2 >>> (16 &&& 31)) - (1 : Int32)) < ((p1 >>> (16 &&& 31)) - (1 : Int32)) then ((p2 >>> (16 &&& 31)) - (1 : Int32)) else ((p1 >>> (16 &&& 31)) - (1 : Int32)))) else if (p1 >>> (16 &&& 31)) = (0 : Int32) then some 0 else if (p2 >>> (16 &&& 31)) = (0 : Int32) then some 0 else if (p1 >>> (16 &&& 31)) = (p2 >>> (16 &&& 31)) then if (65528 : Int32) ≤ (p1 &&& 65535) then if (p1 &&& 65535) < (65528 : Int32) then if (p2 &&& 65535) < (65528 : Int32) then some ((65536 : Int32) * (if (p2 >>> (16 &&& 31)) < (p1 >>> (16 &&& 31)) then (p2 >>> (16 &&& 31)) else (p1 >>> (16 &&& 31)))) else some ((65536 : Int32) * (if ((p2 >>> (16 &&& 31)) - (1 : Int32)) < (p1 >>> (16 &&& 31)) then ((p2 >>> (16 &&& 31)) - (1 : Int32)) else (p1 >>> (16 &&& 31)))) else if (p2 &&& 65535) < (65528 : Int32) then some ((65536 : Int32) * (if (p2 >>> (16 &&& 31)) < ((p1 >>> (16 &&& 31)) - (1 : Int32)) then (p2 >>> (16 &&& 31)) else ((p1 >>> (16 &&& 31)) - (1 : Int32)))) else some ((65536 : Int32) * (if ((p2 >>> (16 &&& 31)) - (1 : Int32)) < ((p1 >>> (16 &&& 31)) - (1 : Int32)) then ((p2 >>> (16 &&& 31)) - (1 : Int32)) else ((p1 >>> (16 &&& 31)) - (1 : Int32)))) else if (65528 : Int32) ≤ (p2 &&& 65535) then if (p1 &&& 65535) < (65528 : Int32) then if (p2 &&& 65535) < (65528 : Int32) then some ((65536 : Int32) * (if (p2 >>> (16 &&& 31)) < (p1 >>> (16 &&& 31)) then (p2 >>> (16 &&& 31)) else (p1 >>> (16 &&& 31)))) else some ((65536 : Int32) * (if ((p2 >>> (16 &&& 31)) - (1 : Int32)) < (p1 >>> (16 &&& 31)) then ((p2 >>> (16 &&& 31)) - (1 : Int32)) else (p1 >>> (16 &&& 31)))) else if (p2 &&& 65535) < (65528 : Int32) then some ((65536 : Int32) * (if (p2 >>> (16 &&& 31)) < ((p1 >>> (16 &&& 31)) - (1 : Int32)) then (p2 >>> (16 &&& 31)) else ((p1 >>> (16 &&& 31)) - (1 : Int32)))) else some ((65536 : Int32) * (if ((p2 >>> (16 &&& 31)) - (1 : Int32)) < ((p1 >>> (16 &&& 31)) - (1 : Int32)) then ((p2 >>> (16 &&& 31)) - (1 : Int32)) else ((p1 >>> (16 &&& 31)) - (1 : Int32)))) else none else if (p1 &&& 65535) < (65528 : Int32) then if (p2 &&& 65535) < (65528 : Int32) then some ((65536 : Int32) * (if (p2 >>> (16 &&& 31)) < (p1 >>> (16 &&& 31)) then (p2 >>> (16 &&& 31)) else (p1 >>> (16 &&& 31)))) else some ((65536 : Int32) * (if ((p2 >>> (16 &&& 31)) - (1 : Int32)) < (p1 >>> (16 &&& 31)) then ((p2 >>> (16 &&& 31)) - (1 : Int32)) else (p1 >>> (16 &&& 31)))) else if (p2 &&& 65535) < (65528 : Int32) then some ((65536 : Int32) * (if (p2 >>> (16 &&& 31)) < ((p1 >>> (16 &&& 31)) - (1 : Int32)) then (p2 >>> (16 &&& 31)) else ((p1 >>> (16 &&& 31)) - (1 : Int32)))) else some ((65536 : Int32) * (if ((p2 >>> (16 &&& 31)) - (1 : Int32)) < ((p1 >>> (16 &&& 31)) - (1 : Int32)) then ((p2 >>> (16 &&& 31)) - (1 : Int32)) else ((p1 >>> (16 &&& 31)) - (1 : Int32))))
theorem i_X9_shared_0_X9 : ∀ w ∈ wsX90, w ∈ wsX9_shared := fun _ h => List.mem_cons_of_mem _ (List.mem_append_right _ h)
set_option maxHeartbeats 4000000 in
set_option maxRecDepth 100000 in
theorem c_X9_shared_0 (l : Launch) (dC : Nat → ClassId) (dI : Nat → Nat → Nat) (cyI cyZ cyJ : ClassId) (sz : Nat) (o9 : Nat) (v9_0 : Int32) (v9_1 : Int32) (v9_2 : Int32) (v9_3 : Int32) (a9_4 : Nat) (a9_5 : Nat) (a9_6 : Nat) (a9_7 : Nat) (a9_8 : Nat) (a9_9 : Nat) (a9_10 : Nat) (a9_11 : Nat) (a9_12 : Nat) (v9_13 : Int32) (v9_14 : Int32) (v9_15 : Int32) (v9_16 : Int32) (v9_17 : Int32) (v9_18 : Int32) (a9_19 : Nat) (v9_20 : Int32) (v9_21 : Int32) (v9_22 : Int32) (a9_23 : Nat) (a9_24 : Nat) (a9_25 : Nat) (a9_26 : Nat) (a9_27 : Nat) (a9_28 : Nat) (a9_29 : Nat) (a9_30 : Nat) (a9_31 : Nat) (a9_32 : Nat) (a9_33 : Nat) (a9_34 : Nat) (v9_35 : Int32) (v9_36 : Int32) (a9_37 : Nat) (a9_38 : Nat) (a9_39 : Nat) (a9_40 : Nat) (a9_41 : Nat) (v9_42 : Int32) (a9_43 : Nat) (a9_44 : Nat) (a9_45 : Nat) (a9_46 : Nat) (a9_47 : Nat) (v9_48 : Int32) (v9_49 : Int32) (v9_50 : Int32) (v9_51 : Int32) (a9_52 : Nat) (a9_53 : Nat) (v9_54 : Int32) (v9_55 : Int32) (a9_56 : Nat) (a9_57 : Nat) (v9_58 : Int32) (a9_59 : Nat) (a9_60 : Nat) (a9_61 : Nat) (g9_4 : Nat → Int32) (g9_5 : Nat → Int32) (p1 : Int32) (p2 : Int32) (R : Int32) (hf : f_X9_shared_0 g9_4 g9_5 p1 p2 = some R) : Met l yX9_shared wsX9_shared ({ frames := 1, cells := 0, slots := 0, locals := 23 }) (va_Pc [.ref o9, .int p1, .int p2] (x_Pre (dC, dI) (x_T cyI cyZ cyJ) [(o9, .inr (9, x_O9 v9_0 v9_1 v9_2 v9_3 a9_4 a9_5 a9_6 a9_7 a9_8 a9_9 a9_10 a9_11 a9_12 v9_13 v9_14 v9_15 v9_16 v9_17 v9_18 a9_19 v9_20 v9_21 v9_22 a9_23 a9_24 a9_25 a9_26 a9_27 a9_28 a9_29 a9_30 a9_31 a9_32 a9_33 a9_34 v9_35 v9_36 a9_37 a9_38 a9_39 a9_40 a9_41 v9_42 a9_43 a9_44 a9_45 a9_46 a9_47 v9_48 v9_49 v9_50 v9_51 a9_52 a9_53 v9_54 v9_55 a9_56 a9_57 v9_58 a9_59 a9_60 a9_61)), (a9_4, .inl (cyI, 200, .inl g9_4)), (a9_5, .inl (cyZ, 200, .inl g9_5))] sz)) (va_Qi (fun (r : Int32) (_ : Unit) => r = R) (fun _ _ => True) (x_new sz)) 0 0 (x_new sz) := by
  refine Met.ofW (cc := cX9_shared) (maxL := 8) (ret := (some .int)) (by decide) rfl ?_
  intro p e s m args below meth c s₁ B hml hv
  obtain ⟨rfl, hsz, hP, hK, hN⟩ := hv
  have hx := B.exec
  have hb := B.bytes
  have hr := B.returns
  have hts := atoms_spec (ws := wsX9_shared) B.pre
  have hown : s.vm.findClass RX9 = some m.cls := findClass_of_methodNamed B.named
  have k_1 := hts (.fieldLink RX9 16 "FlowJudgeModel" "up" "[I") (by decide +kernel)
  have k_2 := hts (.constant RX9 142 (65535)) (by decide +kernel)
  have k_3 := hts (.constant RX9 141 (65536)) (by decide +kernel)
  have k_4 := hts (.constant RX9 140 (65528)) (by decide +kernel)
  have k_5 := hts (.methodLink RX9 209 Lib.Math.min.name) (by decide +kernel)
  have k_6 := hts (.static Lib.Math.min.name) (by decide +kernel)
  have k_7 := hts (.initialized "java/lang/Math") (by decide +kernel)
  have k_8 := hts (.code Lib.Math.min.name Lib.Math.min.code 2 (some .int)) (by decide +kernel)
  have k_9 := hts (.fieldLink RX9 20 "FlowJudgeModel" "face" "[Z") (by decide +kernel)
  subst hsz
  have hA : ∀ q : Nat, s.heap.size ≤ q → x_new s.heap.size q := fun _ h => h
  have hS : va_S (x_new s.heap.size) s.heap s.heap [] := va_S.rf
  have hP : va_P (dC, dI) vwCl [(o9, .inr (9, x_O9 v9_0 v9_1 v9_2 v9_3 a9_4 a9_5 a9_6 a9_7 a9_8 a9_9 a9_10 a9_11 a9_12 v9_13 v9_14 v9_15 v9_16 v9_17 v9_18 a9_19 v9_20 v9_21 v9_22 a9_23 a9_24 a9_25 a9_26 a9_27 a9_28 a9_29 a9_30 a9_31 a9_32 a9_33 a9_34 v9_35 v9_36 a9_37 a9_38 a9_39 a9_40 a9_41 v9_42 a9_43 a9_44 a9_45 a9_46 a9_47 v9_48 v9_49 v9_50 v9_51 a9_52 a9_53 v9_54 v9_55 a9_56 a9_57 v9_58 a9_59 a9_60 a9_61)), (a9_4, .inl (cyI, 200, .inl g9_4)), (a9_5, .inl (cyZ, 200, .inl g9_5))] s.heap := hP
  have hl := lv_entry ([.ref o9, .int p1, .int p2]) (n := 8) (Nat.le_of_ble_eq_true rfl)
  rw [lg_entry_eq]
  generalize (lg_sl ([.ref o9, .int p1, .int p2]) ++ List.replicate (8 - (lg_sl ([.ref o9, .int p1, .int p2])).length) Slot.unset).toArray = ls at hl ⊢
  have hl : lv_has ls 8 [(0, .ref o9), (1, .int p1), (2, .int p2)] := hl
  obtain ⟨H, hH⟩ : ∃ z, z = s.heap := ⟨_, rfl⟩
  refine x_here hH ?_
  have hP : va_P (dC, dI) vwCl [(o9, .inr (9, x_O9 v9_0 v9_1 v9_2 v9_3 a9_4 a9_5 a9_6 a9_7 a9_8 a9_9 a9_10 a9_11 a9_12 v9_13 v9_14 v9_15 v9_16 v9_17 v9_18 a9_19 v9_20 v9_21 v9_22 a9_23 a9_24 a9_25 a9_26 a9_27 a9_28 a9_29 a9_30 a9_31 a9_32 a9_33 a9_34 v9_35 v9_36 a9_37 a9_38 a9_39 a9_40 a9_41 v9_42 a9_43 a9_44 a9_45 a9_46 a9_47 v9_48 v9_49 v9_50 v9_51 a9_52 a9_53 v9_54 v9_55 a9_56 a9_57 v9_58 a9_59 a9_60 a9_61)), (a9_4, .inl (cyI, 200, .inl g9_4)), (a9_5, .inl (cyZ, 200, .inl g9_5))] H := by rw [hH]; exact hP
  have hS : va_S (x_new s.heap.size) s.heap H [] := by rw [hH]; exact va_S.rf
  clear hH
  obtain ⟨locs, hlo⟩ : ∃ z : List Loc, z = [] := ⟨_, rfl⟩
  refine x_herl hlo ?_
  have hS : va_S (x_new s.heap.size) s.heap H locs := by rw [hlo]; exact hS
  clear hlo
  unfold f_X9_shared_0 at hf
  refine x_wn (fun WW hWW => ?_)
  have J := fun (l6 : Int32) => f_X9_shared_0_L.partial_correctness g9_4 g9_5 l6 (fun (z : Nat × Int32) (r : Int32) => r = R → ∀ (q : Nat) (l7 : Int32), z = (q, l7) → ((q = 0 → ∀ (H : Heap) (locs : List Loc) (ls : Array Slot), va_P (dC, dI) vwCl [(o9, .inr (9, x_O9 v9_0 v9_1 v9_2 v9_3 a9_4 a9_5 a9_6 a9_7 a9_8 a9_9 a9_10 a9_11 a9_12 v9_13 v9_14 v9_15 v9_16 v9_17 v9_18 a9_19 v9_20 v9_21 v9_22 a9_23 a9_24 a9_25 a9_26 a9_27 a9_28 a9_29 a9_30 a9_31 a9_32 a9_33 a9_34 v9_35 v9_36 a9_37 a9_38 a9_39 a9_40 a9_41 v9_42 a9_43 a9_44 a9_45 a9_46 a9_47 v9_48 v9_49 v9_50 v9_51 a9_52 a9_53 v9_54 v9_55 a9_56 a9_57 v9_58 a9_59 a9_60 a9_61)), (a9_4, .inl (cyI, 200, .inl g9_4)), (a9_5, .inl (cyZ, 200, .inl g9_5))] H → va_S (x_new s.heap.size) s.heap H locs → lv_has ls 8 [(0, .ref o9), (6, .int l6), (7, .int l7)] → WW H locs 0 0 (F0 m 65 ls [])))) (by
    intro F ih z r hf hr q l7 hz
    subst hz
    obtain rfl := hr
    · intro hq H locs ls hP hS hl
      subst hq
      refine (hWW _ _ _ _ _).mp ?_
      replace hf := x_ip rfl hf
      refine lv_aload_n hx hb dX9_shared_65 rfl (lv_at hl 0 rfl) ?_
      refine lv_iload hx hb dX9_shared_66 (lv_at hl 1 rfl) ?_
      refine lv_iload hx hb dX9_shared_68 (lv_at hl 2 rfl) ?_
      obtain ⟨r_1, h_1, hf⟩ := x_bi hf
      have hPc := hP.sub (ws' := [(o9, .inr (9, x_O9 v9_0 v9_1 v9_2 v9_3 a9_4 a9_5 a9_6 a9_7 a9_8 a9_9 a9_10 a9_11 a9_12 v9_13 v9_14 v9_15 v9_16 v9_17 v9_18 a9_19 v9_20 v9_21 v9_22 a9_23 a9_24 a9_25 a9_26 a9_27 a9_28 a9_29 a9_30 a9_31 a9_32 a9_33 a9_34 v9_35 v9_36 a9_37 a9_38 a9_39 a9_40 a9_41 v9_42 a9_43 a9_44 a9_45 a9_46 a9_47 v9_48 v9_49 v9_50 v9_51 a9_52 a9_53 v9_54 v9_55 a9_56 a9_57 v9_58 a9_59 a9_60 a9_61)), (a9_4, .inl (cyI, 200, .inl g9_4))]) [0, 1] rfl
      refine va_calli (va_runV (As := [.int l6, .int l7]) (rest := []) ⟨hx, hb, hml, hown, hts⟩ (c_X9_below l dC dI cyI cyZ cyJ H.size o9 v9_0 v9_1 v9_2 v9_3 a9_4 a9_5 a9_6 a9_7 a9_8 a9_9 a9_10 a9_11 a9_12 v9_13 v9_14 v9_15 v9_16 v9_17 v9_18 a9_19 v9_20 v9_21 v9_22 a9_23 a9_24 a9_25 a9_26 a9_27 a9_28 a9_29 a9_30 a9_31 a9_32 a9_33 a9_34 v9_35 v9_36 a9_37 a9_38 a9_39 a9_40 a9_41 v9_42 a9_43 a9_44 a9_45 a9_46 a9_47 v9_48 v9_49 v9_50 v9_51 a9_52 a9_53 v9_54 v9_55 a9_56 a9_57 v9_58 a9_59 a9_60 a9_61 g9_4 l6 l7 r_1 h_1) (cwV 2 hts gX9_shared_X9_below rfl rfl rfl (by decide +kernel) ⟨Nat.le_of_ble_eq_true rfl, Nat.le_of_ble_eq_true rfl⟩) (x_pV hN hK hPc (ci := 9) (q0 := 0) rfl rfl) rfl rfl hl.1 rfl (lv_room (Nat.le_of_ble_eq_true rfl)) dX9_shared_70 ⟨Nat.le_of_ble_eq_true rfl, Nat.le_of_ble_eq_true rfl⟩) hS x_nA (x_nf hA hS) (fun q_1 u t H1 locs ht hvm hw hB hz1 hk1 hS => ?_)
      have hP := x_kp hP hk1
      clear ht hvm hB hz1 hk1 t u hPc
      generalize H1 = H at hP hS ⊢
      obtain ⟨hw, b_1⟩ := hw
      obtain rfl := hw.symm
      refine lv_if_ne (tgt := 88) hx hb dX9_shared_73 (by decide) (fun c_2 => ?_) (fun c_2 => ?_)
      · replace hf := x_in c_2 hf
        refine lv_iload hx hb dX9_shared_88 (lv_at hl 2 rfl) ?_
        obtain rfl := Option.some.inj hf
        exact W.iret hx hb hr (fun t ht hW => ⟨⟨_, (), rfl, rfl, trivial⟩, hS.F ht⟩) hS.2.2 dX9_shared_90
      · replace hf := x_ip c_2 hf
        refine lv_aload_n hx hb dX9_shared_76 rfl (lv_at hl 0 rfl) ?_
        refine va_get (D := (dC, dI)) (ci := 9) (v := .ref a9_4) (C := RX9) (T := TX9) (N := 62) hx hb hts i_X9_shared_0_X9 hown hK hP 0 rfl rfl 4 (by decide) k_1 (fun _ h9 => h9) rfl dX9_shared_77 ?_
        refine lv_iload hx hb dX9_shared_80 (lv_at hl 2 rfl) ?_
        obtain ⟨g_3, hf⟩ := x_gu hf
        refine va_iald hx hb hK hP 1 0 rfl rfl (x_gdin g_3) dX9_shared_82 ?_
        refine lv_istore (lv' := [(7, .int (g9_4 (Int32.toNatClampNeg l7))), (0, .ref o9), (6, .int l6)]) hx hb dX9_shared_83 hl (by decide) rfl (fun ls hl => ?_)
        refine lv_goto (tgt := 65) hx hb dX9_shared_85 (by decide) ?_
        exact (hWW _ _ _ _ _).mpr ((ih (0, g9_4 (Int32.toNatClampNeg l7)) _ hf rfl _ _ rfl) rfl H locs ls hP hS (lv_sub hl [1, 2, 0] rfl)))
  refine lv_iload_n hx hb dX9_shared_0 rfl (lv_at hl 1 rfl) ?_
  refine lv_iload_n hx hb dX9_shared_1 rfl (lv_at hl 2 rfl) ?_
  refine lv_icmp_ne (tgt := 7) hx hb dX9_shared_2 (by decide) (fun c_4 => ?_) (fun c_4 => ?_)
  · replace hf := x_in c_4 hf
    refine lv_iload_n hx hb dX9_shared_7 rfl (lv_at hl 1 rfl) ?_
    refine lv_bipush (v := 16) hx hb dX9_shared_8 (by decide) ?_
    refine lv_ishr hx hb dX9_shared_10 ?_
    refine lv_istore_n (lv' := [(3, .int (p1 >>> (16 &&& 31))), (0, .ref o9), (1, .int p1), (2, .int p2)]) hx hb dX9_shared_11 rfl hl (by decide) rfl (fun ls hl => ?_)
    refine lv_iload_n hx hb dX9_shared_12 rfl (lv_at hl 3 rfl) ?_
    refine lv_bipush (v := 16) hx hb dX9_shared_13 (by decide) ?_
    refine lv_ishr hx hb dX9_shared_15 ?_
    refine lv_istore (lv' := [(4, .int (p2 >>> (16 &&& 31))), (3, .int (p1 >>> (16 &&& 31))), (0, .ref o9), (1, .int p1), (2, .int p2)]) hx hb dX9_shared_16 hl (by decide) rfl (fun ls hl => ?_)
    refine lv_iload_n hx hb dX9_shared_18 rfl (lv_at hl 3 rfl) ?_
    refine lv_ldc (v := 65535) hx hb hown k_2 dX9_shared_19 ?_
    refine lv_iand hx hb dX9_shared_21 ?_
    refine lv_istore (lv' := [(5, .int (p1 &&& 65535)), (4, .int (p2 >>> (16 &&& 31))), (3, .int (p1 >>> (16 &&& 31))), (0, .ref o9), (1, .int p1), (2, .int p2)]) hx hb dX9_shared_22 hl (by decide) rfl (fun ls hl => ?_)
    refine lv_iload_n hx hb dX9_shared_24 rfl (lv_at hl 5 rfl) ?_
    refine lv_ldc (v := 65535) hx hb hown k_2 dX9_shared_25 ?_
    refine lv_iand hx hb dX9_shared_27 ?_
    refine lv_istore (lv' := [(6, .int (p2 &&& 65535)), (5, .int (p1 &&& 65535)), (4, .int (p2 >>> (16 &&& 31))), (3, .int (p1 >>> (16 &&& 31))), (0, .ref o9), (1, .int p1), (2, .int p2)]) hx hb dX9_shared_28 hl (by decide) rfl (fun ls hl => ?_)
    refine lv_iload_n hx hb dX9_shared_30 rfl (lv_at hl 3 rfl) ?_
    refine lv_if_ne (tgt := 91) hx hb dX9_shared_31 (by decide) (fun c_5 => ?_) (fun c_5 => ?_)
    · replace hf := x_in c_5 hf
      refine lv_iload_n hx hb dX9_shared_91 rfl (lv_at hl 3 rfl) ?_
      refine lv_if_eq (tgt := 100) hx hb dX9_shared_92 (by decide) (fun c_6 => ?_) (fun c_6 => ?_)
      · replace hf := x_ip c_6 hf
        refine lv_iconst (v := 0) hx hb dX9_shared_100 (by decide) ?_
        obtain rfl := Option.some.inj hf
        exact W.iret hx hb hr (fun t ht hW => ⟨⟨_, (), rfl, rfl, trivial⟩, hS.F ht⟩) hS.2.2 dX9_shared_101
      · replace hf := x_in c_6 hf
        refine lv_iload hx hb dX9_shared_95 (lv_at hl 2 rfl) ?_
        refine lv_if_ne (tgt := 102) hx hb dX9_shared_97 (by decide) (fun c_7 => ?_) (fun c_7 => ?_)
        · replace hf := x_in c_7 hf
          refine lv_iload_n hx hb dX9_shared_102 rfl (lv_at hl 3 rfl) ?_
          refine lv_iload hx hb dX9_shared_103 (lv_at hl 2 rfl) ?_
          refine lv_icmp_ne (tgt := 136) hx hb dX9_shared_105 (by decide) (fun c_8 => ?_) (fun c_8 => ?_)
          · replace hf := x_in c_8 hf
            refine lv_ldc (v := 65536) hx hb hown k_3 dX9_shared_136 ?_
            refine lv_iload hx hb dX9_shared_138 (lv_at hl 1 rfl) ?_
            refine lv_ldc (v := 65528) hx hb hown k_4 dX9_shared_140 ?_
            refine lv_icmp_lt (tgt := 151) hx hb dX9_shared_142 (by decide) (fun c_9 => ?_) (fun c_9 => ?_)
            · replace hf := x_ip c_9 hf
              refine lv_iload_n hx hb dX9_shared_151 rfl (lv_at hl 3 rfl) ?_
              refine lv_iload hx hb dX9_shared_152 (lv_at hl 0 rfl) ?_
              refine lv_ldc (v := 65528) hx hb hown k_4 dX9_shared_154 ?_
              refine lv_icmp_lt (tgt := 166) hx hb dX9_shared_156 (by decide) (fun c_10 => ?_) (fun c_10 => ?_)
              · replace hf := x_ip c_10 hf
                refine lv_iload hx hb dX9_shared_166 (lv_at hl 2 rfl) ?_
                refine va_mmin hx hb (hml.trans hl.1.symm) hown k_5 k_6 k_7 k_8 (Nat.le_of_ble_eq_true rfl) (Nat.le_of_ble_eq_true rfl) (Nat.le_of_ble_eq_true rfl) (Nat.le_of_ble_eq_true rfl) dX9_shared_168 ?_
                refine lv_imul hx hb dX9_shared_171 ?_
                obtain rfl := Option.some.inj hf
                exact W.iret hx hb hr (fun t ht hW => ⟨⟨_, (), rfl, rfl, trivial⟩, hS.F ht⟩) hS.2.2 dX9_shared_172
              · replace hf := x_in c_10 hf
                refine lv_iload hx hb dX9_shared_159 (lv_at hl 2 rfl) ?_
                refine lv_iconst (v := 1) hx hb dX9_shared_161 (by decide) ?_
                refine lv_isub hx hb dX9_shared_162 ?_
                refine lv_goto (tgt := 168) hx hb dX9_shared_163 (by decide) ?_
                refine va_mmin hx hb (hml.trans hl.1.symm) hown k_5 k_6 k_7 k_8 (Nat.le_of_ble_eq_true rfl) (Nat.le_of_ble_eq_true rfl) (Nat.le_of_ble_eq_true rfl) (Nat.le_of_ble_eq_true rfl) dX9_shared_168 ?_
                refine lv_imul hx hb dX9_shared_171 ?_
                obtain rfl := Option.some.inj hf
                exact W.iret hx hb hr (fun t ht hW => ⟨⟨_, (), rfl, rfl, trivial⟩, hS.F ht⟩) hS.2.2 dX9_shared_172
            · replace hf := x_in c_9 hf
              refine lv_iload_n hx hb dX9_shared_145 rfl (lv_at hl 3 rfl) ?_
              refine lv_iconst (v := 1) hx hb dX9_shared_146 (by decide) ?_
              refine lv_isub hx hb dX9_shared_147 ?_
              refine lv_goto (tgt := 152) hx hb dX9_shared_148 (by decide) ?_
              refine lv_iload hx hb dX9_shared_152 (lv_at hl 0 rfl) ?_
              refine lv_ldc (v := 65528) hx hb hown k_4 dX9_shared_154 ?_
              refine lv_icmp_lt (tgt := 166) hx hb dX9_shared_156 (by decide) (fun c_11 => ?_) (fun c_11 => ?_)
              · replace hf := x_ip c_11 hf
                refine lv_iload hx hb dX9_shared_166 (lv_at hl 2 rfl) ?_
                refine va_mmin hx hb (hml.trans hl.1.symm) hown k_5 k_6 k_7 k_8 (Nat.le_of_ble_eq_true rfl) (Nat.le_of_ble_eq_true rfl) (Nat.le_of_ble_eq_true rfl) (Nat.le_of_ble_eq_true rfl) dX9_shared_168 ?_
                refine lv_imul hx hb dX9_shared_171 ?_
                obtain rfl := Option.some.inj hf
                exact W.iret hx hb hr (fun t ht hW => ⟨⟨_, (), rfl, rfl, trivial⟩, hS.F ht⟩) hS.2.2 dX9_shared_172
              · replace hf := x_in c_11 hf
                refine lv_iload hx hb dX9_shared_159 (lv_at hl 2 rfl) ?_
                refine lv_iconst (v := 1) hx hb dX9_shared_161 (by decide) ?_
                refine lv_isub hx hb dX9_shared_162 ?_
                refine lv_goto (tgt := 168) hx hb dX9_shared_163 (by decide) ?_
                refine va_mmin hx hb (hml.trans hl.1.symm) hown k_5 k_6 k_7 k_8 (Nat.le_of_ble_eq_true rfl) (Nat.le_of_ble_eq_true rfl) (Nat.le_of_ble_eq_true rfl) (Nat.le_of_ble_eq_true rfl) dX9_shared_168 ?_
                refine lv_imul hx hb dX9_shared_171 ?_
                obtain rfl := Option.some.inj hf
                exact W.iret hx hb hr (fun t ht hW => ⟨⟨_, (), rfl, rfl, trivial⟩, hS.F ht⟩) hS.2.2 dX9_shared_172
          · replace hf := x_ip c_8 hf
            refine lv_iload hx hb dX9_shared_108 (lv_at hl 1 rfl) ?_
            refine lv_ldc (v := 65528) hx hb hown k_4 dX9_shared_110 ?_
            refine lv_icmp_ge (tgt := 136) hx hb dX9_shared_112 (by decide) (fun c_12 => ?_) (fun c_12 => ?_)
            · replace hf := x_ip c_12 hf
              refine lv_ldc (v := 65536) hx hb hown k_3 dX9_shared_136 ?_
              refine lv_iload hx hb dX9_shared_138 (lv_at hl 1 rfl) ?_
              refine lv_ldc (v := 65528) hx hb hown k_4 dX9_shared_140 ?_
              refine lv_icmp_lt (tgt := 151) hx hb dX9_shared_142 (by decide) (fun c_13 => ?_) (fun c_13 => ?_)
              · replace hf := x_ip c_13 hf
                refine lv_iload_n hx hb dX9_shared_151 rfl (lv_at hl 3 rfl) ?_
                refine lv_iload hx hb dX9_shared_152 (lv_at hl 0 rfl) ?_
                refine lv_ldc (v := 65528) hx hb hown k_4 dX9_shared_154 ?_
                refine lv_icmp_lt (tgt := 166) hx hb dX9_shared_156 (by decide) (fun c_14 => ?_) (fun c_14 => ?_)
                · replace hf := x_ip c_14 hf
                  refine lv_iload hx hb dX9_shared_166 (lv_at hl 2 rfl) ?_
                  refine va_mmin hx hb (hml.trans hl.1.symm) hown k_5 k_6 k_7 k_8 (Nat.le_of_ble_eq_true rfl) (Nat.le_of_ble_eq_true rfl) (Nat.le_of_ble_eq_true rfl) (Nat.le_of_ble_eq_true rfl) dX9_shared_168 ?_
                  refine lv_imul hx hb dX9_shared_171 ?_
                  obtain rfl := Option.some.inj hf
                  exact W.iret hx hb hr (fun t ht hW => ⟨⟨_, (), rfl, rfl, trivial⟩, hS.F ht⟩) hS.2.2 dX9_shared_172
                · replace hf := x_in c_14 hf
                  refine lv_iload hx hb dX9_shared_159 (lv_at hl 2 rfl) ?_
                  refine lv_iconst (v := 1) hx hb dX9_shared_161 (by decide) ?_
                  refine lv_isub hx hb dX9_shared_162 ?_
                  refine lv_goto (tgt := 168) hx hb dX9_shared_163 (by decide) ?_
                  refine va_mmin hx hb (hml.trans hl.1.symm) hown k_5 k_6 k_7 k_8 (Nat.le_of_ble_eq_true rfl) (Nat.le_of_ble_eq_true rfl) (Nat.le_of_ble_eq_true rfl) (Nat.le_of_ble_eq_true rfl) dX9_shared_168 ?_
                  refine lv_imul hx hb dX9_shared_171 ?_
                  obtain rfl := Option.some.inj hf
                  exact W.iret hx hb hr (fun t ht hW => ⟨⟨_, (), rfl, rfl, trivial⟩, hS.F ht⟩) hS.2.2 dX9_shared_172
              · replace hf := x_in c_13 hf
                refine lv_iload_n hx hb dX9_shared_145 rfl (lv_at hl 3 rfl) ?_
                refine lv_iconst (v := 1) hx hb dX9_shared_146 (by decide) ?_
                refine lv_isub hx hb dX9_shared_147 ?_
                refine lv_goto (tgt := 152) hx hb dX9_shared_148 (by decide) ?_
                refine lv_iload hx hb dX9_shared_152 (lv_at hl 0 rfl) ?_
                refine lv_ldc (v := 65528) hx hb hown k_4 dX9_shared_154 ?_
                refine lv_icmp_lt (tgt := 166) hx hb dX9_shared_156 (by decide) (fun c_15 => ?_) (fun c_15 => ?_)
                · replace hf := x_ip c_15 hf
                  refine lv_iload hx hb dX9_shared_166 (lv_at hl 2 rfl) ?_
                  refine va_mmin hx hb (hml.trans hl.1.symm) hown k_5 k_6 k_7 k_8 (Nat.le_of_ble_eq_true rfl) (Nat.le_of_ble_eq_true rfl) (Nat.le_of_ble_eq_true rfl) (Nat.le_of_ble_eq_true rfl) dX9_shared_168 ?_
                  refine lv_imul hx hb dX9_shared_171 ?_
                  obtain rfl := Option.some.inj hf
                  exact W.iret hx hb hr (fun t ht hW => ⟨⟨_, (), rfl, rfl, trivial⟩, hS.F ht⟩) hS.2.2 dX9_shared_172
                · replace hf := x_in c_15 hf
                  refine lv_iload hx hb dX9_shared_159 (lv_at hl 2 rfl) ?_
                  refine lv_iconst (v := 1) hx hb dX9_shared_161 (by decide) ?_
                  refine lv_isub hx hb dX9_shared_162 ?_
                  refine lv_goto (tgt := 168) hx hb dX9_shared_163 (by decide) ?_
                  refine va_mmin hx hb (hml.trans hl.1.symm) hown k_5 k_6 k_7 k_8 (Nat.le_of_ble_eq_true rfl) (Nat.le_of_ble_eq_true rfl) (Nat.le_of_ble_eq_true rfl) (Nat.le_of_ble_eq_true rfl) dX9_shared_168 ?_
                  refine lv_imul hx hb dX9_shared_171 ?_
                  obtain rfl := Option.some.inj hf
                  exact W.iret hx hb hr (fun t ht hW => ⟨⟨_, (), rfl, rfl, trivial⟩, hS.F ht⟩) hS.2.2 dX9_shared_172
            · replace hf := x_in c_12 hf
              refine lv_iload hx hb dX9_shared_115 (lv_at hl 0 rfl) ?_
              refine lv_ldc (v := 65528) hx hb hown k_4 dX9_shared_117 ?_
              refine lv_icmp_ge (tgt := 136) hx hb dX9_shared_119 (by decide) (fun c_16 => ?_) (fun c_16 => ?_)
              · replace hf := x_ip c_16 hf
                refine lv_ldc (v := 65536) hx hb hown k_3 dX9_shared_136 ?_
                refine lv_iload hx hb dX9_shared_138 (lv_at hl 1 rfl) ?_
                refine lv_ldc (v := 65528) hx hb hown k_4 dX9_shared_140 ?_
                refine lv_icmp_lt (tgt := 151) hx hb dX9_shared_142 (by decide) (fun c_17 => ?_) (fun c_17 => ?_)
                · replace hf := x_ip c_17 hf
                  refine lv_iload_n hx hb dX9_shared_151 rfl (lv_at hl 3 rfl) ?_
                  refine lv_iload hx hb dX9_shared_152 (lv_at hl 0 rfl) ?_
                  refine lv_ldc (v := 65528) hx hb hown k_4 dX9_shared_154 ?_
                  refine lv_icmp_lt (tgt := 166) hx hb dX9_shared_156 (by decide) (fun c_18 => ?_) (fun c_18 => ?_)
                  · replace hf := x_ip c_18 hf
                    refine lv_iload hx hb dX9_shared_166 (lv_at hl 2 rfl) ?_
                    refine va_mmin hx hb (hml.trans hl.1.symm) hown k_5 k_6 k_7 k_8 (Nat.le_of_ble_eq_true rfl) (Nat.le_of_ble_eq_true rfl) (Nat.le_of_ble_eq_true rfl) (Nat.le_of_ble_eq_true rfl) dX9_shared_168 ?_
                    refine lv_imul hx hb dX9_shared_171 ?_
                    obtain rfl := Option.some.inj hf
                    exact W.iret hx hb hr (fun t ht hW => ⟨⟨_, (), rfl, rfl, trivial⟩, hS.F ht⟩) hS.2.2 dX9_shared_172
                  · replace hf := x_in c_18 hf
                    refine lv_iload hx hb dX9_shared_159 (lv_at hl 2 rfl) ?_
                    refine lv_iconst (v := 1) hx hb dX9_shared_161 (by decide) ?_
                    refine lv_isub hx hb dX9_shared_162 ?_
                    refine lv_goto (tgt := 168) hx hb dX9_shared_163 (by decide) ?_
                    refine va_mmin hx hb (hml.trans hl.1.symm) hown k_5 k_6 k_7 k_8 (Nat.le_of_ble_eq_true rfl) (Nat.le_of_ble_eq_true rfl) (Nat.le_of_ble_eq_true rfl) (Nat.le_of_ble_eq_true rfl) dX9_shared_168 ?_
                    refine lv_imul hx hb dX9_shared_171 ?_
                    obtain rfl := Option.some.inj hf
                    exact W.iret hx hb hr (fun t ht hW => ⟨⟨_, (), rfl, rfl, trivial⟩, hS.F ht⟩) hS.2.2 dX9_shared_172
                · replace hf := x_in c_17 hf
                  refine lv_iload_n hx hb dX9_shared_145 rfl (lv_at hl 3 rfl) ?_
                  refine lv_iconst (v := 1) hx hb dX9_shared_146 (by decide) ?_
                  refine lv_isub hx hb dX9_shared_147 ?_
                  refine lv_goto (tgt := 152) hx hb dX9_shared_148 (by decide) ?_
                  refine lv_iload hx hb dX9_shared_152 (lv_at hl 0 rfl) ?_
                  refine lv_ldc (v := 65528) hx hb hown k_4 dX9_shared_154 ?_
                  refine lv_icmp_lt (tgt := 166) hx hb dX9_shared_156 (by decide) (fun c_19 => ?_) (fun c_19 => ?_)
                  · replace hf := x_ip c_19 hf
                    refine lv_iload hx hb dX9_shared_166 (lv_at hl 2 rfl) ?_
                    refine va_mmin hx hb (hml.trans hl.1.symm) hown k_5 k_6 k_7 k_8 (Nat.le_of_ble_eq_true rfl) (Nat.le_of_ble_eq_true rfl) (Nat.le_of_ble_eq_true rfl) (Nat.le_of_ble_eq_true rfl) dX9_shared_168 ?_
                    refine lv_imul hx hb dX9_shared_171 ?_
                    obtain rfl := Option.some.inj hf
                    exact W.iret hx hb hr (fun t ht hW => ⟨⟨_, (), rfl, rfl, trivial⟩, hS.F ht⟩) hS.2.2 dX9_shared_172
                  · replace hf := x_in c_19 hf
                    refine lv_iload hx hb dX9_shared_159 (lv_at hl 2 rfl) ?_
                    refine lv_iconst (v := 1) hx hb dX9_shared_161 (by decide) ?_
                    refine lv_isub hx hb dX9_shared_162 ?_
                    refine lv_goto (tgt := 168) hx hb dX9_shared_163 (by decide) ?_
                    refine va_mmin hx hb (hml.trans hl.1.symm) hown k_5 k_6 k_7 k_8 (Nat.le_of_ble_eq_true rfl) (Nat.le_of_ble_eq_true rfl) (Nat.le_of_ble_eq_true rfl) (Nat.le_of_ble_eq_true rfl) dX9_shared_168 ?_
                    refine lv_imul hx hb dX9_shared_171 ?_
                    obtain rfl := Option.some.inj hf
                    exact W.iret hx hb hr (fun t ht hW => ⟨⟨_, (), rfl, rfl, trivial⟩, hS.F ht⟩) hS.2.2 dX9_shared_172
              · replace hf := x_in c_16 hf
                refine lv_aload_n hx hb dX9_shared_122 rfl (lv_at hl 4 rfl) ?_
                refine lv_iload hx hb dX9_shared_123 (lv_at hl 1 rfl) ?_
                refine lv_iload hx hb dX9_shared_125 (lv_at hl 0 rfl) ?_
                cases hf
        · replace hf := x_ip c_7 hf
          refine lv_iconst (v := 0) hx hb dX9_shared_100 (by decide) ?_
          obtain rfl := Option.some.inj hf
          exact W.iret hx hb hr (fun t ht hW => ⟨⟨_, (), rfl, rfl, trivial⟩, hS.F ht⟩) hS.2.2 dX9_shared_101
    · replace hf := x_ip c_5 hf
      refine lv_iload hx hb dX9_shared_34 (lv_at hl 2 rfl) ?_
      refine lv_if_ne (tgt := 91) hx hb dX9_shared_36 (by decide) (fun c_20 => ?_) (fun c_20 => ?_)
      · replace hf := x_in c_20 hf
        refine lv_iload_n hx hb dX9_shared_91 rfl (lv_at hl 3 rfl) ?_
        refine lv_if_eq (tgt := 100) hx hb dX9_shared_92 (by decide) (fun c_21 => ?_) (fun c_21 => ?_)
        · replace hf := x_ip c_21 hf
          refine lv_iconst (v := 0) hx hb dX9_shared_100 (by decide) ?_
          obtain rfl := Option.some.inj hf
          exact W.iret hx hb hr (fun t ht hW => ⟨⟨_, (), rfl, rfl, trivial⟩, hS.F ht⟩) hS.2.2 dX9_shared_101
        · replace hf := x_in c_21 hf
          refine lv_iload hx hb dX9_shared_95 (lv_at hl 2 rfl) ?_
          refine lv_if_ne (tgt := 102) hx hb dX9_shared_97 (by decide) (fun c_22 => ?_) (fun c_22 => ?_)
          · replace hf := x_in c_22 hf
            refine lv_iload_n hx hb dX9_shared_102 rfl (lv_at hl 3 rfl) ?_
            refine lv_iload hx hb dX9_shared_103 (lv_at hl 2 rfl) ?_
            refine lv_icmp_ne (tgt := 136) hx hb dX9_shared_105 (by decide) (fun c_23 => ?_) (fun c_23 => ?_)
            · replace hf := x_in c_23 hf
              refine lv_ldc (v := 65536) hx hb hown k_3 dX9_shared_136 ?_
              refine lv_iload hx hb dX9_shared_138 (lv_at hl 1 rfl) ?_
              refine lv_ldc (v := 65528) hx hb hown k_4 dX9_shared_140 ?_
              refine lv_icmp_lt (tgt := 151) hx hb dX9_shared_142 (by decide) (fun c_24 => ?_) (fun c_24 => ?_)
              · replace hf := x_ip c_24 hf
                refine lv_iload_n hx hb dX9_shared_151 rfl (lv_at hl 3 rfl) ?_
                refine lv_iload hx hb dX9_shared_152 (lv_at hl 0 rfl) ?_
                refine lv_ldc (v := 65528) hx hb hown k_4 dX9_shared_154 ?_
                refine lv_icmp_lt (tgt := 166) hx hb dX9_shared_156 (by decide) (fun c_25 => ?_) (fun c_25 => ?_)
                · replace hf := x_ip c_25 hf
                  refine lv_iload hx hb dX9_shared_166 (lv_at hl 2 rfl) ?_
                  refine va_mmin hx hb (hml.trans hl.1.symm) hown k_5 k_6 k_7 k_8 (Nat.le_of_ble_eq_true rfl) (Nat.le_of_ble_eq_true rfl) (Nat.le_of_ble_eq_true rfl) (Nat.le_of_ble_eq_true rfl) dX9_shared_168 ?_
                  refine lv_imul hx hb dX9_shared_171 ?_
                  obtain rfl := Option.some.inj hf
                  exact W.iret hx hb hr (fun t ht hW => ⟨⟨_, (), rfl, rfl, trivial⟩, hS.F ht⟩) hS.2.2 dX9_shared_172
                · replace hf := x_in c_25 hf
                  refine lv_iload hx hb dX9_shared_159 (lv_at hl 2 rfl) ?_
                  refine lv_iconst (v := 1) hx hb dX9_shared_161 (by decide) ?_
                  refine lv_isub hx hb dX9_shared_162 ?_
                  refine lv_goto (tgt := 168) hx hb dX9_shared_163 (by decide) ?_
                  refine va_mmin hx hb (hml.trans hl.1.symm) hown k_5 k_6 k_7 k_8 (Nat.le_of_ble_eq_true rfl) (Nat.le_of_ble_eq_true rfl) (Nat.le_of_ble_eq_true rfl) (Nat.le_of_ble_eq_true rfl) dX9_shared_168 ?_
                  refine lv_imul hx hb dX9_shared_171 ?_
                  obtain rfl := Option.some.inj hf
                  exact W.iret hx hb hr (fun t ht hW => ⟨⟨_, (), rfl, rfl, trivial⟩, hS.F ht⟩) hS.2.2 dX9_shared_172
              · replace hf := x_in c_24 hf
                refine lv_iload_n hx hb dX9_shared_145 rfl (lv_at hl 3 rfl) ?_
                refine lv_iconst (v := 1) hx hb dX9_shared_146 (by decide) ?_
                refine lv_isub hx hb dX9_shared_147 ?_
                refine lv_goto (tgt := 152) hx hb dX9_shared_148 (by decide) ?_
                refine lv_iload hx hb dX9_shared_152 (lv_at hl 0 rfl) ?_
                refine lv_ldc (v := 65528) hx hb hown k_4 dX9_shared_154 ?_
                refine lv_icmp_lt (tgt := 166) hx hb dX9_shared_156 (by decide) (fun c_26 => ?_) (fun c_26 => ?_)
                · replace hf := x_ip c_26 hf
                  refine lv_iload hx hb dX9_shared_166 (lv_at hl 2 rfl) ?_
                  refine va_mmin hx hb (hml.trans hl.1.symm) hown k_5 k_6 k_7 k_8 (Nat.le_of_ble_eq_true rfl) (Nat.le_of_ble_eq_true rfl) (Nat.le_of_ble_eq_true rfl) (Nat.le_of_ble_eq_true rfl) dX9_shared_168 ?_
                  refine lv_imul hx hb dX9_shared_171 ?_
                  obtain rfl := Option.some.inj hf
                  exact W.iret hx hb hr (fun t ht hW => ⟨⟨_, (), rfl, rfl, trivial⟩, hS.F ht⟩) hS.2.2 dX9_shared_172
                · replace hf := x_in c_26 hf
                  refine lv_iload hx hb dX9_shared_159 (lv_at hl 2 rfl) ?_
                  refine lv_iconst (v := 1) hx hb dX9_shared_161 (by decide) ?_
                  refine lv_isub hx hb dX9_shared_162 ?_
                  refine lv_goto (tgt := 168) hx hb dX9_shared_163 (by decide) ?_
                  refine va_mmin hx hb (hml.trans hl.1.symm) hown k_5 k_6 k_7 k_8 (Nat.le_of_ble_eq_true rfl) (Nat.le_of_ble_eq_true rfl) (Nat.le_of_ble_eq_true rfl) (Nat.le_of_ble_eq_true rfl) dX9_shared_168 ?_
                  refine lv_imul hx hb dX9_shared_171 ?_
                  obtain rfl := Option.some.inj hf
                  exact W.iret hx hb hr (fun t ht hW => ⟨⟨_, (), rfl, rfl, trivial⟩, hS.F ht⟩) hS.2.2 dX9_shared_172
            · replace hf := x_ip c_23 hf
              refine lv_iload hx hb dX9_shared_108 (lv_at hl 1 rfl) ?_
              refine lv_ldc (v := 65528) hx hb hown k_4 dX9_shared_110 ?_
              refine lv_icmp_ge (tgt := 136) hx hb dX9_shared_112 (by decide) (fun c_27 => ?_) (fun c_27 => ?_)
              · replace hf := x_ip c_27 hf
                refine lv_ldc (v := 65536) hx hb hown k_3 dX9_shared_136 ?_
                refine lv_iload hx hb dX9_shared_138 (lv_at hl 1 rfl) ?_
                refine lv_ldc (v := 65528) hx hb hown k_4 dX9_shared_140 ?_
                refine lv_icmp_lt (tgt := 151) hx hb dX9_shared_142 (by decide) (fun c_28 => ?_) (fun c_28 => ?_)
                · replace hf := x_ip c_28 hf
                  refine lv_iload_n hx hb dX9_shared_151 rfl (lv_at hl 3 rfl) ?_
                  refine lv_iload hx hb dX9_shared_152 (lv_at hl 0 rfl) ?_
                  refine lv_ldc (v := 65528) hx hb hown k_4 dX9_shared_154 ?_
                  refine lv_icmp_lt (tgt := 166) hx hb dX9_shared_156 (by decide) (fun c_29 => ?_) (fun c_29 => ?_)
                  · replace hf := x_ip c_29 hf
                    refine lv_iload hx hb dX9_shared_166 (lv_at hl 2 rfl) ?_
                    refine va_mmin hx hb (hml.trans hl.1.symm) hown k_5 k_6 k_7 k_8 (Nat.le_of_ble_eq_true rfl) (Nat.le_of_ble_eq_true rfl) (Nat.le_of_ble_eq_true rfl) (Nat.le_of_ble_eq_true rfl) dX9_shared_168 ?_
                    refine lv_imul hx hb dX9_shared_171 ?_
                    obtain rfl := Option.some.inj hf
                    exact W.iret hx hb hr (fun t ht hW => ⟨⟨_, (), rfl, rfl, trivial⟩, hS.F ht⟩) hS.2.2 dX9_shared_172
                  · replace hf := x_in c_29 hf
                    refine lv_iload hx hb dX9_shared_159 (lv_at hl 2 rfl) ?_
                    refine lv_iconst (v := 1) hx hb dX9_shared_161 (by decide) ?_
                    refine lv_isub hx hb dX9_shared_162 ?_
                    refine lv_goto (tgt := 168) hx hb dX9_shared_163 (by decide) ?_
                    refine va_mmin hx hb (hml.trans hl.1.symm) hown k_5 k_6 k_7 k_8 (Nat.le_of_ble_eq_true rfl) (Nat.le_of_ble_eq_true rfl) (Nat.le_of_ble_eq_true rfl) (Nat.le_of_ble_eq_true rfl) dX9_shared_168 ?_
                    refine lv_imul hx hb dX9_shared_171 ?_
                    obtain rfl := Option.some.inj hf
                    exact W.iret hx hb hr (fun t ht hW => ⟨⟨_, (), rfl, rfl, trivial⟩, hS.F ht⟩) hS.2.2 dX9_shared_172
                · replace hf := x_in c_28 hf
                  refine lv_iload_n hx hb dX9_shared_145 rfl (lv_at hl 3 rfl) ?_
                  refine lv_iconst (v := 1) hx hb dX9_shared_146 (by decide) ?_
                  refine lv_isub hx hb dX9_shared_147 ?_
                  refine lv_goto (tgt := 152) hx hb dX9_shared_148 (by decide) ?_
                  refine lv_iload hx hb dX9_shared_152 (lv_at hl 0 rfl) ?_
                  refine lv_ldc (v := 65528) hx hb hown k_4 dX9_shared_154 ?_
                  refine lv_icmp_lt (tgt := 166) hx hb dX9_shared_156 (by decide) (fun c_30 => ?_) (fun c_30 => ?_)
                  · replace hf := x_ip c_30 hf
                    refine lv_iload hx hb dX9_shared_166 (lv_at hl 2 rfl) ?_
                    refine va_mmin hx hb (hml.trans hl.1.symm) hown k_5 k_6 k_7 k_8 (Nat.le_of_ble_eq_true rfl) (Nat.le_of_ble_eq_true rfl) (Nat.le_of_ble_eq_true rfl) (Nat.le_of_ble_eq_true rfl) dX9_shared_168 ?_
                    refine lv_imul hx hb dX9_shared_171 ?_
                    obtain rfl := Option.some.inj hf
                    exact W.iret hx hb hr (fun t ht hW => ⟨⟨_, (), rfl, rfl, trivial⟩, hS.F ht⟩) hS.2.2 dX9_shared_172
                  · replace hf := x_in c_30 hf
                    refine lv_iload hx hb dX9_shared_159 (lv_at hl 2 rfl) ?_
                    refine lv_iconst (v := 1) hx hb dX9_shared_161 (by decide) ?_
                    refine lv_isub hx hb dX9_shared_162 ?_
                    refine lv_goto (tgt := 168) hx hb dX9_shared_163 (by decide) ?_
                    refine va_mmin hx hb (hml.trans hl.1.symm) hown k_5 k_6 k_7 k_8 (Nat.le_of_ble_eq_true rfl) (Nat.le_of_ble_eq_true rfl) (Nat.le_of_ble_eq_true rfl) (Nat.le_of_ble_eq_true rfl) dX9_shared_168 ?_
                    refine lv_imul hx hb dX9_shared_171 ?_
                    obtain rfl := Option.some.inj hf
                    exact W.iret hx hb hr (fun t ht hW => ⟨⟨_, (), rfl, rfl, trivial⟩, hS.F ht⟩) hS.2.2 dX9_shared_172
              · replace hf := x_in c_27 hf
                refine lv_iload hx hb dX9_shared_115 (lv_at hl 0 rfl) ?_
                refine lv_ldc (v := 65528) hx hb hown k_4 dX9_shared_117 ?_
                refine lv_icmp_ge (tgt := 136) hx hb dX9_shared_119 (by decide) (fun c_31 => ?_) (fun c_31 => ?_)
                · replace hf := x_ip c_31 hf
                  refine lv_ldc (v := 65536) hx hb hown k_3 dX9_shared_136 ?_
                  refine lv_iload hx hb dX9_shared_138 (lv_at hl 1 rfl) ?_
                  refine lv_ldc (v := 65528) hx hb hown k_4 dX9_shared_140 ?_
                  refine lv_icmp_lt (tgt := 151) hx hb dX9_shared_142 (by decide) (fun c_32 => ?_) (fun c_32 => ?_)
                  · replace hf := x_ip c_32 hf
                    refine lv_iload_n hx hb dX9_shared_151 rfl (lv_at hl 3 rfl) ?_
                    refine lv_iload hx hb dX9_shared_152 (lv_at hl 0 rfl) ?_
                    refine lv_ldc (v := 65528) hx hb hown k_4 dX9_shared_154 ?_
                    refine lv_icmp_lt (tgt := 166) hx hb dX9_shared_156 (by decide) (fun c_33 => ?_) (fun c_33 => ?_)
                    · replace hf := x_ip c_33 hf
                      refine lv_iload hx hb dX9_shared_166 (lv_at hl 2 rfl) ?_
                      refine va_mmin hx hb (hml.trans hl.1.symm) hown k_5 k_6 k_7 k_8 (Nat.le_of_ble_eq_true rfl) (Nat.le_of_ble_eq_true rfl) (Nat.le_of_ble_eq_true rfl) (Nat.le_of_ble_eq_true rfl) dX9_shared_168 ?_
                      refine lv_imul hx hb dX9_shared_171 ?_
                      obtain rfl := Option.some.inj hf
                      exact W.iret hx hb hr (fun t ht hW => ⟨⟨_, (), rfl, rfl, trivial⟩, hS.F ht⟩) hS.2.2 dX9_shared_172
                    · replace hf := x_in c_33 hf
                      refine lv_iload hx hb dX9_shared_159 (lv_at hl 2 rfl) ?_
                      refine lv_iconst (v := 1) hx hb dX9_shared_161 (by decide) ?_
                      refine lv_isub hx hb dX9_shared_162 ?_
                      refine lv_goto (tgt := 168) hx hb dX9_shared_163 (by decide) ?_
                      refine va_mmin hx hb (hml.trans hl.1.symm) hown k_5 k_6 k_7 k_8 (Nat.le_of_ble_eq_true rfl) (Nat.le_of_ble_eq_true rfl) (Nat.le_of_ble_eq_true rfl) (Nat.le_of_ble_eq_true rfl) dX9_shared_168 ?_
                      refine lv_imul hx hb dX9_shared_171 ?_
                      obtain rfl := Option.some.inj hf
                      exact W.iret hx hb hr (fun t ht hW => ⟨⟨_, (), rfl, rfl, trivial⟩, hS.F ht⟩) hS.2.2 dX9_shared_172
                  · replace hf := x_in c_32 hf
                    refine lv_iload_n hx hb dX9_shared_145 rfl (lv_at hl 3 rfl) ?_
                    refine lv_iconst (v := 1) hx hb dX9_shared_146 (by decide) ?_
                    refine lv_isub hx hb dX9_shared_147 ?_
                    refine lv_goto (tgt := 152) hx hb dX9_shared_148 (by decide) ?_
                    refine lv_iload hx hb dX9_shared_152 (lv_at hl 0 rfl) ?_
                    refine lv_ldc (v := 65528) hx hb hown k_4 dX9_shared_154 ?_
                    refine lv_icmp_lt (tgt := 166) hx hb dX9_shared_156 (by decide) (fun c_34 => ?_) (fun c_34 => ?_)
                    · replace hf := x_ip c_34 hf
                      refine lv_iload hx hb dX9_shared_166 (lv_at hl 2 rfl) ?_
                      refine va_mmin hx hb (hml.trans hl.1.symm) hown k_5 k_6 k_7 k_8 (Nat.le_of_ble_eq_true rfl) (Nat.le_of_ble_eq_true rfl) (Nat.le_of_ble_eq_true rfl) (Nat.le_of_ble_eq_true rfl) dX9_shared_168 ?_
                      refine lv_imul hx hb dX9_shared_171 ?_
                      obtain rfl := Option.some.inj hf
                      exact W.iret hx hb hr (fun t ht hW => ⟨⟨_, (), rfl, rfl, trivial⟩, hS.F ht⟩) hS.2.2 dX9_shared_172
                    · replace hf := x_in c_34 hf
                      refine lv_iload hx hb dX9_shared_159 (lv_at hl 2 rfl) ?_
                      refine lv_iconst (v := 1) hx hb dX9_shared_161 (by decide) ?_
                      refine lv_isub hx hb dX9_shared_162 ?_
                      refine lv_goto (tgt := 168) hx hb dX9_shared_163 (by decide) ?_
                      refine va_mmin hx hb (hml.trans hl.1.symm) hown k_5 k_6 k_7 k_8 (Nat.le_of_ble_eq_true rfl) (Nat.le_of_ble_eq_true rfl) (Nat.le_of_ble_eq_true rfl) (Nat.le_of_ble_eq_true rfl) dX9_shared_168 ?_
                      refine lv_imul hx hb dX9_shared_171 ?_
                      obtain rfl := Option.some.inj hf
                      exact W.iret hx hb hr (fun t ht hW => ⟨⟨_, (), rfl, rfl, trivial⟩, hS.F ht⟩) hS.2.2 dX9_shared_172
                · replace hf := x_in c_31 hf
                  refine lv_aload_n hx hb dX9_shared_122 rfl (lv_at hl 4 rfl) ?_
                  refine lv_iload hx hb dX9_shared_123 (lv_at hl 1 rfl) ?_
                  refine lv_iload hx hb dX9_shared_125 (lv_at hl 0 rfl) ?_
                  cases hf
          · replace hf := x_ip c_22 hf
            refine lv_iconst (v := 0) hx hb dX9_shared_100 (by decide) ?_
            obtain rfl := Option.some.inj hf
            exact W.iret hx hb hr (fun t ht hW => ⟨⟨_, (), rfl, rfl, trivial⟩, hS.F ht⟩) hS.2.2 dX9_shared_101
      · replace hf := x_ip c_20 hf
        refine lv_aload_n hx hb dX9_shared_39 rfl (lv_at hl 4 rfl) ?_
        refine va_get (D := (dC, dI)) (ci := 9) (v := .ref a9_5) (C := RX9) (T := TX9) (N := 62) hx hb hts i_X9_shared_0_X9 hown hK hP 0 rfl rfl 5 (by decide) k_9 (fun _ h9 => h9) rfl dX9_shared_40 ?_
        refine lv_iload hx hb dX9_shared_43 (lv_at hl 1 rfl) ?_
        obtain ⟨g_35, hf⟩ := x_gu hf
        refine va_zald hx hb hK hP 2 1 rfl rfl (x_gdin g_35) dX9_shared_45 ?_
        refine lv_if_ne (tgt := 59) hx hb dX9_shared_46 (by decide) (fun c_36 => ?_) (fun c_36 => ?_)
        · replace hf := x_in c_36 hf
          refine lv_iconst (v := 0) hx hb dX9_shared_59 (by decide) ?_
          obtain rfl := Option.some.inj hf
          exact W.iret hx hb hr (fun t ht hW => ⟨⟨_, (), rfl, rfl, trivial⟩, hS.F ht⟩) hS.2.2 dX9_shared_60
        · replace hf := x_ip c_36 hf
          refine lv_aload_n hx hb dX9_shared_49 rfl (lv_at hl 4 rfl) ?_
          refine va_get (D := (dC, dI)) (ci := 9) (v := .ref a9_5) (C := RX9) (T := TX9) (N := 62) hx hb hts i_X9_shared_0_X9 hown hK hP 0 rfl rfl 5 (by decide) k_9 (fun _ h9 => h9) rfl dX9_shared_50 ?_
          refine lv_iload hx hb dX9_shared_53 (lv_at hl 0 rfl) ?_
          obtain ⟨g_37, hf⟩ := x_gu hf
          refine va_zald hx hb hK hP 2 1 rfl rfl (x_gdin g_37) dX9_shared_55 ?_
          refine lv_if_eq (tgt := 61) hx hb dX9_shared_56 (by decide) (fun c_38 => ?_) (fun c_38 => ?_)
          · replace hf := x_ip c_38 hf
            refine lv_iload hx hb dX9_shared_61 (lv_at hl 1 rfl) ?_
            refine lv_istore (lv' := [(7, .int (p1 &&& 65535)), (6, .int (p2 &&& 65535)), (5, .int (p1 &&& 65535)), (4, .int (p2 >>> (16 &&& 31))), (3, .int (p1 >>> (16 &&& 31))), (0, .ref o9), (1, .int p1), (2, .int p2)]) hx hb dX9_shared_63 hl (by decide) rfl (fun ls hl => ?_)
            exact (hWW _ _ _ _ _).mpr ((J (p2 &&& 65535) (0, p1 &&& 65535) _ hf rfl _ _ rfl) rfl H locs ls hP hS (lv_sub hl [5, 1, 0] rfl))
          · replace hf := x_in c_38 hf
            refine lv_iconst (v := 0) hx hb dX9_shared_59 (by decide) ?_
            obtain rfl := Option.some.inj hf
            exact W.iret hx hb hr (fun t ht hW => ⟨⟨_, (), rfl, rfl, trivial⟩, hS.F ht⟩) hS.2.2 dX9_shared_60
  · replace hf := x_ip c_4 hf
    refine lv_iload_n hx hb dX9_shared_5 rfl (lv_at hl 1 rfl) ?_
    obtain rfl := Option.some.inj hf
    exact W.iret hx hb hr (fun t ht hW => ⟨⟨_, (), rfl, rfl, trivial⟩, hS.F ht⟩) hS.2.2 dX9_shared_6

def f_X9_shared_L (g9_4 : Nat → Int32) (g9_5 : Nat → Int32) (l6 : Int32) (z : Nat × Int32) : Option (Int32) := match z with
  | (q, l7) => if q = 0 then (f_X9_below g9_4 l6 l7) >>= (fun r_1 => if r_1 = (0 : Int32) then if x_gd l7 200 = true then (f_X9_shared_L g9_4 g9_5 l6 (0, g9_4 (Int32.toNatClampNeg l7))) else none else some l7) else none
partial_fixpoint
def f_X9_shared (g9_4 : Nat → Int32) (g9_5 : Nat → Int32) (p1 : Int32) (p2 : Int32) : Option (Int32) := if p1 = p2 then some p1 else if (p1 >>> (16 &&& 31)) = (0 : Int32) then if (p2 >>> (16 &&& 31)) = (0 : Int32) then if x_gd (p1 &&& 65535) 200 = true then if (g9_5 (Int32.toNatClampNeg (p1 &&& 65535))) = (0 : Int32) then if x_gd (p2 &&& 65535) 200 = true then if (g9_5 (Int32.toNatClampNeg (p2 &&& 65535))) = (0 : Int32) then (f_X9_shared_L g9_4 g9_5 (p2 &&& 65535) (0, p1 &&& 65535)) else some 0 else none else some 0 else none else if (p1 >>> (16 &&& 31)) = (0 : Int32) then some 0 else if (p2 >>> (16 &&& 31)) = (0 : Int32) then some 0 else if (p1 >>> (16 &&& 31)) = (p2 >>> (16 &&& 31)) then if (65528 : Int32) ≤ (p1 &&& 65535) then if (p1 &&& 65535) < (65528 : Int32) then if (p2 &&& 65535) < (65528 : Int32) then some ((65536 : Int32) * (if (p2 >>> (16 &&& 31)) < (p1 >>> (16 &&& 31)) then (p2 >>> (16 &&& 31)) else (p1 >>> (16 &&& 31)))) else some ((65536 : Int32) * (if ((p2 >>> (16 &&& 31)) - (1 : Int32)) < (p1 >>> (16 &&& 31)) then ((p2 >>> (16 &&& 31)) - (1 : Int32)) else (p1 >>> (16 &&& 31)))) else if (p2 &&& 65535) < (65528 : Int32) then some ((65536 : Int32) * (if (p2 >>> (16 &&& 31)) < ((p1 >>> (16 &&& 31)) - (1 : Int32)) then (p2 >>> (16 &&& 31)) else ((p1 >>> (16 &&& 31)) - (1 : Int32)))) else some ((65536 : Int32) * (if ((p2 >>> (16 &&& 31)) - (1 : Int32)) < ((p1 >>> (16 &&& 31)) - (1 : Int32)) then ((p2 >>> (16 &&& 31)) - (1 : Int32)) else ((p1 >>> (16 &&& 31)) - (1 : Int32)))) else if (65528 : Int32) ≤ (p2 &&& 65535) then if (p1 &&& 65535) < (65528 : Int32) then if (p2 &&& 65535) < (65528 : Int32) then some ((65536 : Int32) * (if (p2 >>> (16 &&& 31)) < (p1 >>> (16 &&& 31)) then (p2 >>> (16 &&& 31)) else (p1 >>> (16 &&& 31)))) else some ((65536 : Int32) * (if ((p2 >>> (16 &&& 31)) - (1 : Int32)) < (p1 >>> (16 &&& 31)) then ((p2 >>> (16 &&& 31)) - (1 : Int32)) else (p1 >>> (16 &&& 31)))) else if (p2 &&& 65535) < (65528 : Int32) then some ((65536 : Int32) * (if (p2 >>> (16 &&& 31)) < ((p1 >>> (16 &&& 31)) - (1 : Int32)) then (p2 >>> (16 &&& 31)) else ((p1 >>> (16 &&& 31)) - (1 : Int32)))) else some ((65536 : Int32) * (if ((p2 >>> (16 &&& 31)) - (1 : Int32)) < ((p1 >>> (16 &&& 31)) - (1 : Int32)) then ((p2 >>> (16 &&& 31)) - (1 : Int32)) else ((p1 >>> (16 &&& 31)) - (1 : Int32)))) else (f_X9_shared_0 g9_4 g9_5 (p1 &&& 65535) (p2 &&& 65535)) >>= (fun r_36 => some (r_36 + ((65536 : Int32) * (p1 >>> (16 &&& 31))))) else if (p1 &&& 65535) < (65528 : Int32) then if (p2 &&& 65535) < (65528 : Int32) then some ((65536 : Int32) * (if (p2 >>> (16 &&& 31)) < (p1 >>> (16 &&& 31)) then (p2 >>> (16 &&& 31)) else (p1 >>> (16 &&& 31)))) else some ((65536 : Int32) * (if ((p2 >>> (16 &&& 31)) - (1 : Int32)) < (p1 >>> (16 &&& 31)) then ((p2 >>> (16 &&& 31)) - (1 : Int32)) else (p1 >>> (16 &&& 31)))) else if (p2 &&& 65535) < (65528 : Int32) then some ((65536 : Int32) * (if (p2 >>> (16 &&& 31)) < ((p1 >>> (16 &&& 31)) - (1 : Int32)) then (p2 >>> (16 &&& 31)) else ((p1 >>> (16 &&& 31)) - (1 : Int32)))) else some ((65536 : Int32) * (if ((p2 >>> (16 &&& 31)) - (1 : Int32)) < ((p1 >>> (16 &&& 31)) - (1 : Int32)) then ((p2 >>> (16 &&& 31)) - (1 : Int32)) else ((p1 >>> (16 &&& 31)) - (1 : Int32)))) else if (p1 >>> (16 &&& 31)) = (0 : Int32) then some 0 else if (p2 >>> (16 &&& 31)) = (0 : Int32) then some 0 else if (p1 >>> (16 &&& 31)) = (p2 >>> (16 &&& 31)) then if (65528 : Int32) ≤ (p1 &&& 65535) then if (p1 &&& 65535) < (65528 : Int32) then if (p2 &&& 65535) < (65528 : Int32) then some ((65536 : Int32) * (if (p2 >>> (16 &&& 31)) < (p1 >>> (16 &&& 31)) then (p2 >>> (16 &&& 31)) else (p1 >>> (16 &&& 31)))) else some ((65536 : Int32) * (if ((p2 >>> (16 &&& 31)) - (1 : Int32)) < (p1 >>> (16 &&& 31)) then ((p2 >>> (16 &&& 31)) - (1 : Int32)) else (p1 >>> (16 &&& 31)))) else if (p2 &&& 65535) < (65528 : Int32) then some ((65536 : Int32) * (if (p2 >>> (16 &&& 31)) < ((p1 >>> (16 &&& 31)) - (1 : Int32)) then (p2 >>> (16 &&& 31)) else ((p1 >>> (16 &&& 31)) - (1 : Int32)))) else some ((65536 : Int32) * (if ((p2 >>> (16 &&& 31)) - (1 : Int32)) < ((p1 >>> (16 &&& 31)) - (1 : Int32)) then ((p2 >>> (16 &&& 31)) - (1 : Int32)) else ((p1 >>> (16 &&& 31)) - (1 : Int32)))) else if (65528 : Int32) ≤ (p2 &&& 65535) then if (p1 &&& 65535) < (65528 : Int32) then if (p2 &&& 65535) < (65528 : Int32) then some ((65536 : Int32) * (if (p2 >>> (16 &&& 31)) < (p1 >>> (16 &&& 31)) then (p2 >>> (16 &&& 31)) else (p1 >>> (16 &&& 31)))) else some ((65536 : Int32) * (if ((p2 >>> (16 &&& 31)) - (1 : Int32)) < (p1 >>> (16 &&& 31)) then ((p2 >>> (16 &&& 31)) - (1 : Int32)) else (p1 >>> (16 &&& 31)))) else if (p2 &&& 65535) < (65528 : Int32) then some ((65536 : Int32) * (if (p2 >>> (16 &&& 31)) < ((p1 >>> (16 &&& 31)) - (1 : Int32)) then (p2 >>> (16 &&& 31)) else ((p1 >>> (16 &&& 31)) - (1 : Int32)))) else some ((65536 : Int32) * (if ((p2 >>> (16 &&& 31)) - (1 : Int32)) < ((p1 >>> (16 &&& 31)) - (1 : Int32)) then ((p2 >>> (16 &&& 31)) - (1 : Int32)) else ((p1 >>> (16 &&& 31)) - (1 : Int32)))) else (f_X9_shared_0 g9_4 g9_5 (p1 &&& 65535) (p2 &&& 65535)) >>= (fun r_20 => some (r_20 + ((65536 : Int32) * (p1 >>> (16 &&& 31))))) else if (p1 &&& 65535) < (65528 : Int32) then if (p2 &&& 65535) < (65528 : Int32) then some ((65536 : Int32) * (if (p2 >>> (16 &&& 31)) < (p1 >>> (16 &&& 31)) then (p2 >>> (16 &&& 31)) else (p1 >>> (16 &&& 31)))) else some ((65536 : Int32) * (if ((p2 >>> (16 &&& 31)) - (1 : Int32)) < (p1 >>> (16 &&& 31)) then ((p2 >>> (16 &&& 31)) - (1 : Int32)) else (p1 >>> (16 &&& 31)))) else if (p2 &&& 65535) < (65528 : Int32) then some ((65536 : Int32) * (if (p2 >>> (16 &&& 31)) < ((p1 >>> (16 &&& 31)) - (1 : Int32)) then (p2 >>> (16 &&& 31)) else ((p1 >>> (16 &&& 31)) - (1 : Int32)))) else some ((65536 : Int32) * (if ((p2 >>> (16 &&& 31)) - (1 : Int32)) < ((p1 >>> (16 &&& 31)) - (1 : Int32)) then ((p2 >>> (16 &&& 31)) - (1 : Int32)) else ((p1 >>> (16 &&& 31)) - (1 : Int32))))
theorem i_X9_shared_X9 : ∀ w ∈ wsX90, w ∈ wsX9_shared := fun _ h => List.mem_cons_of_mem _ (List.mem_append_right _ h)
set_option maxHeartbeats 4000000 in
set_option maxRecDepth 100000 in
theorem c_X9_shared (l : Launch) (dC : Nat → ClassId) (dI : Nat → Nat → Nat) (cyI cyZ cyJ : ClassId) (sz : Nat) (o9 : Nat) (v9_0 : Int32) (v9_1 : Int32) (v9_2 : Int32) (v9_3 : Int32) (a9_4 : Nat) (a9_5 : Nat) (a9_6 : Nat) (a9_7 : Nat) (a9_8 : Nat) (a9_9 : Nat) (a9_10 : Nat) (a9_11 : Nat) (a9_12 : Nat) (v9_13 : Int32) (v9_14 : Int32) (v9_15 : Int32) (v9_16 : Int32) (v9_17 : Int32) (v9_18 : Int32) (a9_19 : Nat) (v9_20 : Int32) (v9_21 : Int32) (v9_22 : Int32) (a9_23 : Nat) (a9_24 : Nat) (a9_25 : Nat) (a9_26 : Nat) (a9_27 : Nat) (a9_28 : Nat) (a9_29 : Nat) (a9_30 : Nat) (a9_31 : Nat) (a9_32 : Nat) (a9_33 : Nat) (a9_34 : Nat) (v9_35 : Int32) (v9_36 : Int32) (a9_37 : Nat) (a9_38 : Nat) (a9_39 : Nat) (a9_40 : Nat) (a9_41 : Nat) (v9_42 : Int32) (a9_43 : Nat) (a9_44 : Nat) (a9_45 : Nat) (a9_46 : Nat) (a9_47 : Nat) (v9_48 : Int32) (v9_49 : Int32) (v9_50 : Int32) (v9_51 : Int32) (a9_52 : Nat) (a9_53 : Nat) (v9_54 : Int32) (v9_55 : Int32) (a9_56 : Nat) (a9_57 : Nat) (v9_58 : Int32) (a9_59 : Nat) (a9_60 : Nat) (a9_61 : Nat) (g9_4 : Nat → Int32) (g9_5 : Nat → Int32) (p1 : Int32) (p2 : Int32) (R : Int32) (hf : f_X9_shared g9_4 g9_5 p1 p2 = some R) : Met l yX9_shared wsX9_shared ({ frames := 2, cells := 0, slots := 0, locals := 50 }) (va_Pc [.ref o9, .int p1, .int p2] (x_Pre (dC, dI) (x_T cyI cyZ cyJ) [(o9, .inr (9, x_O9 v9_0 v9_1 v9_2 v9_3 a9_4 a9_5 a9_6 a9_7 a9_8 a9_9 a9_10 a9_11 a9_12 v9_13 v9_14 v9_15 v9_16 v9_17 v9_18 a9_19 v9_20 v9_21 v9_22 a9_23 a9_24 a9_25 a9_26 a9_27 a9_28 a9_29 a9_30 a9_31 a9_32 a9_33 a9_34 v9_35 v9_36 a9_37 a9_38 a9_39 a9_40 a9_41 v9_42 a9_43 a9_44 a9_45 a9_46 a9_47 v9_48 v9_49 v9_50 v9_51 a9_52 a9_53 v9_54 v9_55 a9_56 a9_57 v9_58 a9_59 a9_60 a9_61)), (a9_4, .inl (cyI, 200, .inl g9_4)), (a9_5, .inl (cyZ, 200, .inl g9_5))] sz)) (va_Qi (fun (r : Int32) (_ : Unit) => r = R) (fun _ _ => True) (x_new sz)) 0 0 (x_new sz) := by
  refine Met.ofW (cc := cX9_shared) (maxL := 8) (ret := (some .int)) (by decide) rfl ?_
  intro p e s m args below meth c s₁ B hml hv
  obtain ⟨rfl, hsz, hP, hK, hN⟩ := hv
  have hx := B.exec
  have hb := B.bytes
  have hr := B.returns
  have hts := atoms_spec (ws := wsX9_shared) B.pre
  have hown : s.vm.findClass RX9 = some m.cls := findClass_of_methodNamed B.named
  have k_1 := hts (.fieldLink RX9 16 "FlowJudgeModel" "up" "[I") (by decide +kernel)
  have k_2 := hts (.constant RX9 142 (65535)) (by decide +kernel)
  have k_3 := hts (.constant RX9 141 (65536)) (by decide +kernel)
  have k_4 := hts (.constant RX9 140 (65528)) (by decide +kernel)
  have k_5 := hts (.methodLink RX9 209 Lib.Math.min.name) (by decide +kernel)
  have k_6 := hts (.static Lib.Math.min.name) (by decide +kernel)
  have k_7 := hts (.initialized "java/lang/Math") (by decide +kernel)
  have k_8 := hts (.code Lib.Math.min.name Lib.Math.min.code 2 (some .int)) (by decide +kernel)
  have k_9 := hts (.fieldLink RX9 20 "FlowJudgeModel" "face" "[Z") (by decide +kernel)
  subst hsz
  have hA : ∀ q : Nat, s.heap.size ≤ q → x_new s.heap.size q := fun _ h => h
  have hS : va_S (x_new s.heap.size) s.heap s.heap [] := va_S.rf
  have hP : va_P (dC, dI) vwCl [(o9, .inr (9, x_O9 v9_0 v9_1 v9_2 v9_3 a9_4 a9_5 a9_6 a9_7 a9_8 a9_9 a9_10 a9_11 a9_12 v9_13 v9_14 v9_15 v9_16 v9_17 v9_18 a9_19 v9_20 v9_21 v9_22 a9_23 a9_24 a9_25 a9_26 a9_27 a9_28 a9_29 a9_30 a9_31 a9_32 a9_33 a9_34 v9_35 v9_36 a9_37 a9_38 a9_39 a9_40 a9_41 v9_42 a9_43 a9_44 a9_45 a9_46 a9_47 v9_48 v9_49 v9_50 v9_51 a9_52 a9_53 v9_54 v9_55 a9_56 a9_57 v9_58 a9_59 a9_60 a9_61)), (a9_4, .inl (cyI, 200, .inl g9_4)), (a9_5, .inl (cyZ, 200, .inl g9_5))] s.heap := hP
  have hl := lv_entry ([.ref o9, .int p1, .int p2]) (n := 8) (Nat.le_of_ble_eq_true rfl)
  rw [lg_entry_eq]
  generalize (lg_sl ([.ref o9, .int p1, .int p2]) ++ List.replicate (8 - (lg_sl ([.ref o9, .int p1, .int p2])).length) Slot.unset).toArray = ls at hl ⊢
  have hl : lv_has ls 8 [(0, .ref o9), (1, .int p1), (2, .int p2)] := hl
  obtain ⟨H, hH⟩ : ∃ z, z = s.heap := ⟨_, rfl⟩
  refine x_here hH ?_
  have hP : va_P (dC, dI) vwCl [(o9, .inr (9, x_O9 v9_0 v9_1 v9_2 v9_3 a9_4 a9_5 a9_6 a9_7 a9_8 a9_9 a9_10 a9_11 a9_12 v9_13 v9_14 v9_15 v9_16 v9_17 v9_18 a9_19 v9_20 v9_21 v9_22 a9_23 a9_24 a9_25 a9_26 a9_27 a9_28 a9_29 a9_30 a9_31 a9_32 a9_33 a9_34 v9_35 v9_36 a9_37 a9_38 a9_39 a9_40 a9_41 v9_42 a9_43 a9_44 a9_45 a9_46 a9_47 v9_48 v9_49 v9_50 v9_51 a9_52 a9_53 v9_54 v9_55 a9_56 a9_57 v9_58 a9_59 a9_60 a9_61)), (a9_4, .inl (cyI, 200, .inl g9_4)), (a9_5, .inl (cyZ, 200, .inl g9_5))] H := by rw [hH]; exact hP
  have hS : va_S (x_new s.heap.size) s.heap H [] := by rw [hH]; exact va_S.rf
  clear hH
  obtain ⟨locs, hlo⟩ : ∃ z : List Loc, z = [] := ⟨_, rfl⟩
  refine x_herl hlo ?_
  have hS : va_S (x_new s.heap.size) s.heap H locs := by rw [hlo]; exact hS
  clear hlo
  unfold f_X9_shared at hf
  refine x_wn (fun WW hWW => ?_)
  have J := fun (l6 : Int32) => f_X9_shared_L.partial_correctness g9_4 g9_5 l6 (fun (z : Nat × Int32) (r : Int32) => r = R → ∀ (q : Nat) (l7 : Int32), z = (q, l7) → ((q = 0 → ∀ (H : Heap) (locs : List Loc) (ls : Array Slot), va_P (dC, dI) vwCl [(o9, .inr (9, x_O9 v9_0 v9_1 v9_2 v9_3 a9_4 a9_5 a9_6 a9_7 a9_8 a9_9 a9_10 a9_11 a9_12 v9_13 v9_14 v9_15 v9_16 v9_17 v9_18 a9_19 v9_20 v9_21 v9_22 a9_23 a9_24 a9_25 a9_26 a9_27 a9_28 a9_29 a9_30 a9_31 a9_32 a9_33 a9_34 v9_35 v9_36 a9_37 a9_38 a9_39 a9_40 a9_41 v9_42 a9_43 a9_44 a9_45 a9_46 a9_47 v9_48 v9_49 v9_50 v9_51 a9_52 a9_53 v9_54 v9_55 a9_56 a9_57 v9_58 a9_59 a9_60 a9_61)), (a9_4, .inl (cyI, 200, .inl g9_4)), (a9_5, .inl (cyZ, 200, .inl g9_5))] H → va_S (x_new s.heap.size) s.heap H locs → lv_has ls 8 [(0, .ref o9), (6, .int l6), (7, .int l7)] → WW H locs 0 0 (F0 m 65 ls [])))) (by
    intro F ih z r hf hr q l7 hz
    subst hz
    obtain rfl := hr
    · intro hq H locs ls hP hS hl
      subst hq
      refine (hWW _ _ _ _ _).mp ?_
      replace hf := x_ip rfl hf
      refine lv_aload_n hx hb dX9_shared_65 rfl (lv_at hl 0 rfl) ?_
      refine lv_iload hx hb dX9_shared_66 (lv_at hl 1 rfl) ?_
      refine lv_iload hx hb dX9_shared_68 (lv_at hl 2 rfl) ?_
      obtain ⟨r_1, h_1, hf⟩ := x_bi hf
      have hPc := hP.sub (ws' := [(o9, .inr (9, x_O9 v9_0 v9_1 v9_2 v9_3 a9_4 a9_5 a9_6 a9_7 a9_8 a9_9 a9_10 a9_11 a9_12 v9_13 v9_14 v9_15 v9_16 v9_17 v9_18 a9_19 v9_20 v9_21 v9_22 a9_23 a9_24 a9_25 a9_26 a9_27 a9_28 a9_29 a9_30 a9_31 a9_32 a9_33 a9_34 v9_35 v9_36 a9_37 a9_38 a9_39 a9_40 a9_41 v9_42 a9_43 a9_44 a9_45 a9_46 a9_47 v9_48 v9_49 v9_50 v9_51 a9_52 a9_53 v9_54 v9_55 a9_56 a9_57 v9_58 a9_59 a9_60 a9_61)), (a9_4, .inl (cyI, 200, .inl g9_4))]) [0, 1] rfl
      refine va_calli (va_runV (As := [.int l6, .int l7]) (rest := []) ⟨hx, hb, hml, hown, hts⟩ (c_X9_below l dC dI cyI cyZ cyJ H.size o9 v9_0 v9_1 v9_2 v9_3 a9_4 a9_5 a9_6 a9_7 a9_8 a9_9 a9_10 a9_11 a9_12 v9_13 v9_14 v9_15 v9_16 v9_17 v9_18 a9_19 v9_20 v9_21 v9_22 a9_23 a9_24 a9_25 a9_26 a9_27 a9_28 a9_29 a9_30 a9_31 a9_32 a9_33 a9_34 v9_35 v9_36 a9_37 a9_38 a9_39 a9_40 a9_41 v9_42 a9_43 a9_44 a9_45 a9_46 a9_47 v9_48 v9_49 v9_50 v9_51 a9_52 a9_53 v9_54 v9_55 a9_56 a9_57 v9_58 a9_59 a9_60 a9_61 g9_4 l6 l7 r_1 h_1) (cwV 2 hts gX9_shared_X9_below rfl rfl rfl (by decide +kernel) ⟨Nat.le_of_ble_eq_true rfl, Nat.le_of_ble_eq_true rfl⟩) (x_pV hN hK hPc (ci := 9) (q0 := 0) rfl rfl) rfl rfl hl.1 rfl (lv_room (Nat.le_of_ble_eq_true rfl)) dX9_shared_70 ⟨Nat.le_of_ble_eq_true rfl, Nat.le_of_ble_eq_true rfl⟩) hS x_nA (x_nf hA hS) (fun q_1 u t H1 locs ht hvm hw hB hz1 hk1 hS => ?_)
      have hP := x_kp hP hk1
      clear ht hvm hB hz1 hk1 t u hPc
      generalize H1 = H at hP hS ⊢
      obtain ⟨hw, b_1⟩ := hw
      obtain rfl := hw.symm
      refine lv_if_ne (tgt := 88) hx hb dX9_shared_73 (by decide) (fun c_2 => ?_) (fun c_2 => ?_)
      · replace hf := x_in c_2 hf
        refine lv_iload hx hb dX9_shared_88 (lv_at hl 2 rfl) ?_
        obtain rfl := Option.some.inj hf
        exact W.iret hx hb hr (fun t ht hW => ⟨⟨_, (), rfl, rfl, trivial⟩, hS.F ht⟩) hS.2.2 dX9_shared_90
      · replace hf := x_ip c_2 hf
        refine lv_aload_n hx hb dX9_shared_76 rfl (lv_at hl 0 rfl) ?_
        refine va_get (D := (dC, dI)) (ci := 9) (v := .ref a9_4) (C := RX9) (T := TX9) (N := 62) hx hb hts i_X9_shared_X9 hown hK hP 0 rfl rfl 4 (by decide) k_1 (fun _ h9 => h9) rfl dX9_shared_77 ?_
        refine lv_iload hx hb dX9_shared_80 (lv_at hl 2 rfl) ?_
        obtain ⟨g_3, hf⟩ := x_gu hf
        refine va_iald hx hb hK hP 1 0 rfl rfl (x_gdin g_3) dX9_shared_82 ?_
        refine lv_istore (lv' := [(7, .int (g9_4 (Int32.toNatClampNeg l7))), (0, .ref o9), (6, .int l6)]) hx hb dX9_shared_83 hl (by decide) rfl (fun ls hl => ?_)
        refine lv_goto (tgt := 65) hx hb dX9_shared_85 (by decide) ?_
        exact (hWW _ _ _ _ _).mpr ((ih (0, g9_4 (Int32.toNatClampNeg l7)) _ hf rfl _ _ rfl) rfl H locs ls hP hS (lv_sub hl [1, 2, 0] rfl)))
  refine lv_iload_n hx hb dX9_shared_0 rfl (lv_at hl 1 rfl) ?_
  refine lv_iload_n hx hb dX9_shared_1 rfl (lv_at hl 2 rfl) ?_
  refine lv_icmp_ne (tgt := 7) hx hb dX9_shared_2 (by decide) (fun c_4 => ?_) (fun c_4 => ?_)
  · replace hf := x_in c_4 hf
    refine lv_iload_n hx hb dX9_shared_7 rfl (lv_at hl 1 rfl) ?_
    refine lv_bipush (v := 16) hx hb dX9_shared_8 (by decide) ?_
    refine lv_ishr hx hb dX9_shared_10 ?_
    refine lv_istore_n (lv' := [(3, .int (p1 >>> (16 &&& 31))), (0, .ref o9), (1, .int p1), (2, .int p2)]) hx hb dX9_shared_11 rfl hl (by decide) rfl (fun ls hl => ?_)
    refine lv_iload_n hx hb dX9_shared_12 rfl (lv_at hl 3 rfl) ?_
    refine lv_bipush (v := 16) hx hb dX9_shared_13 (by decide) ?_
    refine lv_ishr hx hb dX9_shared_15 ?_
    refine lv_istore (lv' := [(4, .int (p2 >>> (16 &&& 31))), (3, .int (p1 >>> (16 &&& 31))), (0, .ref o9), (1, .int p1), (2, .int p2)]) hx hb dX9_shared_16 hl (by decide) rfl (fun ls hl => ?_)
    refine lv_iload_n hx hb dX9_shared_18 rfl (lv_at hl 3 rfl) ?_
    refine lv_ldc (v := 65535) hx hb hown k_2 dX9_shared_19 ?_
    refine lv_iand hx hb dX9_shared_21 ?_
    refine lv_istore (lv' := [(5, .int (p1 &&& 65535)), (4, .int (p2 >>> (16 &&& 31))), (3, .int (p1 >>> (16 &&& 31))), (0, .ref o9), (1, .int p1), (2, .int p2)]) hx hb dX9_shared_22 hl (by decide) rfl (fun ls hl => ?_)
    refine lv_iload_n hx hb dX9_shared_24 rfl (lv_at hl 5 rfl) ?_
    refine lv_ldc (v := 65535) hx hb hown k_2 dX9_shared_25 ?_
    refine lv_iand hx hb dX9_shared_27 ?_
    refine lv_istore (lv' := [(6, .int (p2 &&& 65535)), (5, .int (p1 &&& 65535)), (4, .int (p2 >>> (16 &&& 31))), (3, .int (p1 >>> (16 &&& 31))), (0, .ref o9), (1, .int p1), (2, .int p2)]) hx hb dX9_shared_28 hl (by decide) rfl (fun ls hl => ?_)
    refine lv_iload_n hx hb dX9_shared_30 rfl (lv_at hl 3 rfl) ?_
    refine lv_if_ne (tgt := 91) hx hb dX9_shared_31 (by decide) (fun c_5 => ?_) (fun c_5 => ?_)
    · replace hf := x_in c_5 hf
      refine lv_iload_n hx hb dX9_shared_91 rfl (lv_at hl 3 rfl) ?_
      refine lv_if_eq (tgt := 100) hx hb dX9_shared_92 (by decide) (fun c_6 => ?_) (fun c_6 => ?_)
      · replace hf := x_ip c_6 hf
        refine lv_iconst (v := 0) hx hb dX9_shared_100 (by decide) ?_
        obtain rfl := Option.some.inj hf
        exact W.iret hx hb hr (fun t ht hW => ⟨⟨_, (), rfl, rfl, trivial⟩, hS.F ht⟩) hS.2.2 dX9_shared_101
      · replace hf := x_in c_6 hf
        refine lv_iload hx hb dX9_shared_95 (lv_at hl 2 rfl) ?_
        refine lv_if_ne (tgt := 102) hx hb dX9_shared_97 (by decide) (fun c_7 => ?_) (fun c_7 => ?_)
        · replace hf := x_in c_7 hf
          refine lv_iload_n hx hb dX9_shared_102 rfl (lv_at hl 3 rfl) ?_
          refine lv_iload hx hb dX9_shared_103 (lv_at hl 2 rfl) ?_
          refine lv_icmp_ne (tgt := 136) hx hb dX9_shared_105 (by decide) (fun c_8 => ?_) (fun c_8 => ?_)
          · replace hf := x_in c_8 hf
            refine lv_ldc (v := 65536) hx hb hown k_3 dX9_shared_136 ?_
            refine lv_iload hx hb dX9_shared_138 (lv_at hl 1 rfl) ?_
            refine lv_ldc (v := 65528) hx hb hown k_4 dX9_shared_140 ?_
            refine lv_icmp_lt (tgt := 151) hx hb dX9_shared_142 (by decide) (fun c_9 => ?_) (fun c_9 => ?_)
            · replace hf := x_ip c_9 hf
              refine lv_iload_n hx hb dX9_shared_151 rfl (lv_at hl 3 rfl) ?_
              refine lv_iload hx hb dX9_shared_152 (lv_at hl 0 rfl) ?_
              refine lv_ldc (v := 65528) hx hb hown k_4 dX9_shared_154 ?_
              refine lv_icmp_lt (tgt := 166) hx hb dX9_shared_156 (by decide) (fun c_10 => ?_) (fun c_10 => ?_)
              · replace hf := x_ip c_10 hf
                refine lv_iload hx hb dX9_shared_166 (lv_at hl 2 rfl) ?_
                refine va_mmin hx hb (hml.trans hl.1.symm) hown k_5 k_6 k_7 k_8 (Nat.le_of_ble_eq_true rfl) (Nat.le_of_ble_eq_true rfl) (Nat.le_of_ble_eq_true rfl) (Nat.le_of_ble_eq_true rfl) dX9_shared_168 ?_
                refine lv_imul hx hb dX9_shared_171 ?_
                obtain rfl := Option.some.inj hf
                exact W.iret hx hb hr (fun t ht hW => ⟨⟨_, (), rfl, rfl, trivial⟩, hS.F ht⟩) hS.2.2 dX9_shared_172
              · replace hf := x_in c_10 hf
                refine lv_iload hx hb dX9_shared_159 (lv_at hl 2 rfl) ?_
                refine lv_iconst (v := 1) hx hb dX9_shared_161 (by decide) ?_
                refine lv_isub hx hb dX9_shared_162 ?_
                refine lv_goto (tgt := 168) hx hb dX9_shared_163 (by decide) ?_
                refine va_mmin hx hb (hml.trans hl.1.symm) hown k_5 k_6 k_7 k_8 (Nat.le_of_ble_eq_true rfl) (Nat.le_of_ble_eq_true rfl) (Nat.le_of_ble_eq_true rfl) (Nat.le_of_ble_eq_true rfl) dX9_shared_168 ?_
                refine lv_imul hx hb dX9_shared_171 ?_
                obtain rfl := Option.some.inj hf
                exact W.iret hx hb hr (fun t ht hW => ⟨⟨_, (), rfl, rfl, trivial⟩, hS.F ht⟩) hS.2.2 dX9_shared_172
            · replace hf := x_in c_9 hf
              refine lv_iload_n hx hb dX9_shared_145 rfl (lv_at hl 3 rfl) ?_
              refine lv_iconst (v := 1) hx hb dX9_shared_146 (by decide) ?_
              refine lv_isub hx hb dX9_shared_147 ?_
              refine lv_goto (tgt := 152) hx hb dX9_shared_148 (by decide) ?_
              refine lv_iload hx hb dX9_shared_152 (lv_at hl 0 rfl) ?_
              refine lv_ldc (v := 65528) hx hb hown k_4 dX9_shared_154 ?_
              refine lv_icmp_lt (tgt := 166) hx hb dX9_shared_156 (by decide) (fun c_11 => ?_) (fun c_11 => ?_)
              · replace hf := x_ip c_11 hf
                refine lv_iload hx hb dX9_shared_166 (lv_at hl 2 rfl) ?_
                refine va_mmin hx hb (hml.trans hl.1.symm) hown k_5 k_6 k_7 k_8 (Nat.le_of_ble_eq_true rfl) (Nat.le_of_ble_eq_true rfl) (Nat.le_of_ble_eq_true rfl) (Nat.le_of_ble_eq_true rfl) dX9_shared_168 ?_
                refine lv_imul hx hb dX9_shared_171 ?_
                obtain rfl := Option.some.inj hf
                exact W.iret hx hb hr (fun t ht hW => ⟨⟨_, (), rfl, rfl, trivial⟩, hS.F ht⟩) hS.2.2 dX9_shared_172
              · replace hf := x_in c_11 hf
                refine lv_iload hx hb dX9_shared_159 (lv_at hl 2 rfl) ?_
                refine lv_iconst (v := 1) hx hb dX9_shared_161 (by decide) ?_
                refine lv_isub hx hb dX9_shared_162 ?_
                refine lv_goto (tgt := 168) hx hb dX9_shared_163 (by decide) ?_
                refine va_mmin hx hb (hml.trans hl.1.symm) hown k_5 k_6 k_7 k_8 (Nat.le_of_ble_eq_true rfl) (Nat.le_of_ble_eq_true rfl) (Nat.le_of_ble_eq_true rfl) (Nat.le_of_ble_eq_true rfl) dX9_shared_168 ?_
                refine lv_imul hx hb dX9_shared_171 ?_
                obtain rfl := Option.some.inj hf
                exact W.iret hx hb hr (fun t ht hW => ⟨⟨_, (), rfl, rfl, trivial⟩, hS.F ht⟩) hS.2.2 dX9_shared_172
          · replace hf := x_ip c_8 hf
            refine lv_iload hx hb dX9_shared_108 (lv_at hl 1 rfl) ?_
            refine lv_ldc (v := 65528) hx hb hown k_4 dX9_shared_110 ?_
            refine lv_icmp_ge (tgt := 136) hx hb dX9_shared_112 (by decide) (fun c_12 => ?_) (fun c_12 => ?_)
            · replace hf := x_ip c_12 hf
              refine lv_ldc (v := 65536) hx hb hown k_3 dX9_shared_136 ?_
              refine lv_iload hx hb dX9_shared_138 (lv_at hl 1 rfl) ?_
              refine lv_ldc (v := 65528) hx hb hown k_4 dX9_shared_140 ?_
              refine lv_icmp_lt (tgt := 151) hx hb dX9_shared_142 (by decide) (fun c_13 => ?_) (fun c_13 => ?_)
              · replace hf := x_ip c_13 hf
                refine lv_iload_n hx hb dX9_shared_151 rfl (lv_at hl 3 rfl) ?_
                refine lv_iload hx hb dX9_shared_152 (lv_at hl 0 rfl) ?_
                refine lv_ldc (v := 65528) hx hb hown k_4 dX9_shared_154 ?_
                refine lv_icmp_lt (tgt := 166) hx hb dX9_shared_156 (by decide) (fun c_14 => ?_) (fun c_14 => ?_)
                · replace hf := x_ip c_14 hf
                  refine lv_iload hx hb dX9_shared_166 (lv_at hl 2 rfl) ?_
                  refine va_mmin hx hb (hml.trans hl.1.symm) hown k_5 k_6 k_7 k_8 (Nat.le_of_ble_eq_true rfl) (Nat.le_of_ble_eq_true rfl) (Nat.le_of_ble_eq_true rfl) (Nat.le_of_ble_eq_true rfl) dX9_shared_168 ?_
                  refine lv_imul hx hb dX9_shared_171 ?_
                  obtain rfl := Option.some.inj hf
                  exact W.iret hx hb hr (fun t ht hW => ⟨⟨_, (), rfl, rfl, trivial⟩, hS.F ht⟩) hS.2.2 dX9_shared_172
                · replace hf := x_in c_14 hf
                  refine lv_iload hx hb dX9_shared_159 (lv_at hl 2 rfl) ?_
                  refine lv_iconst (v := 1) hx hb dX9_shared_161 (by decide) ?_
                  refine lv_isub hx hb dX9_shared_162 ?_
                  refine lv_goto (tgt := 168) hx hb dX9_shared_163 (by decide) ?_
                  refine va_mmin hx hb (hml.trans hl.1.symm) hown k_5 k_6 k_7 k_8 (Nat.le_of_ble_eq_true rfl) (Nat.le_of_ble_eq_true rfl) (Nat.le_of_ble_eq_true rfl) (Nat.le_of_ble_eq_true rfl) dX9_shared_168 ?_
                  refine lv_imul hx hb dX9_shared_171 ?_
                  obtain rfl := Option.some.inj hf
                  exact W.iret hx hb hr (fun t ht hW => ⟨⟨_, (), rfl, rfl, trivial⟩, hS.F ht⟩) hS.2.2 dX9_shared_172
              · replace hf := x_in c_13 hf
                refine lv_iload_n hx hb dX9_shared_145 rfl (lv_at hl 3 rfl) ?_
                refine lv_iconst (v := 1) hx hb dX9_shared_146 (by decide) ?_
                refine lv_isub hx hb dX9_shared_147 ?_
                refine lv_goto (tgt := 152) hx hb dX9_shared_148 (by decide) ?_
                refine lv_iload hx hb dX9_shared_152 (lv_at hl 0 rfl) ?_
                refine lv_ldc (v := 65528) hx hb hown k_4 dX9_shared_154 ?_
                refine lv_icmp_lt (tgt := 166) hx hb dX9_shared_156 (by decide) (fun c_15 => ?_) (fun c_15 => ?_)
                · replace hf := x_ip c_15 hf
                  refine lv_iload hx hb dX9_shared_166 (lv_at hl 2 rfl) ?_
                  refine va_mmin hx hb (hml.trans hl.1.symm) hown k_5 k_6 k_7 k_8 (Nat.le_of_ble_eq_true rfl) (Nat.le_of_ble_eq_true rfl) (Nat.le_of_ble_eq_true rfl) (Nat.le_of_ble_eq_true rfl) dX9_shared_168 ?_
                  refine lv_imul hx hb dX9_shared_171 ?_
                  obtain rfl := Option.some.inj hf
                  exact W.iret hx hb hr (fun t ht hW => ⟨⟨_, (), rfl, rfl, trivial⟩, hS.F ht⟩) hS.2.2 dX9_shared_172
                · replace hf := x_in c_15 hf
                  refine lv_iload hx hb dX9_shared_159 (lv_at hl 2 rfl) ?_
                  refine lv_iconst (v := 1) hx hb dX9_shared_161 (by decide) ?_
                  refine lv_isub hx hb dX9_shared_162 ?_
                  refine lv_goto (tgt := 168) hx hb dX9_shared_163 (by decide) ?_
                  refine va_mmin hx hb (hml.trans hl.1.symm) hown k_5 k_6 k_7 k_8 (Nat.le_of_ble_eq_true rfl) (Nat.le_of_ble_eq_true rfl) (Nat.le_of_ble_eq_true rfl) (Nat.le_of_ble_eq_true rfl) dX9_shared_168 ?_
                  refine lv_imul hx hb dX9_shared_171 ?_
                  obtain rfl := Option.some.inj hf
                  exact W.iret hx hb hr (fun t ht hW => ⟨⟨_, (), rfl, rfl, trivial⟩, hS.F ht⟩) hS.2.2 dX9_shared_172
            · replace hf := x_in c_12 hf
              refine lv_iload hx hb dX9_shared_115 (lv_at hl 0 rfl) ?_
              refine lv_ldc (v := 65528) hx hb hown k_4 dX9_shared_117 ?_
              refine lv_icmp_ge (tgt := 136) hx hb dX9_shared_119 (by decide) (fun c_16 => ?_) (fun c_16 => ?_)
              · replace hf := x_ip c_16 hf
                refine lv_ldc (v := 65536) hx hb hown k_3 dX9_shared_136 ?_
                refine lv_iload hx hb dX9_shared_138 (lv_at hl 1 rfl) ?_
                refine lv_ldc (v := 65528) hx hb hown k_4 dX9_shared_140 ?_
                refine lv_icmp_lt (tgt := 151) hx hb dX9_shared_142 (by decide) (fun c_17 => ?_) (fun c_17 => ?_)
                · replace hf := x_ip c_17 hf
                  refine lv_iload_n hx hb dX9_shared_151 rfl (lv_at hl 3 rfl) ?_
                  refine lv_iload hx hb dX9_shared_152 (lv_at hl 0 rfl) ?_
                  refine lv_ldc (v := 65528) hx hb hown k_4 dX9_shared_154 ?_
                  refine lv_icmp_lt (tgt := 166) hx hb dX9_shared_156 (by decide) (fun c_18 => ?_) (fun c_18 => ?_)
                  · replace hf := x_ip c_18 hf
                    refine lv_iload hx hb dX9_shared_166 (lv_at hl 2 rfl) ?_
                    refine va_mmin hx hb (hml.trans hl.1.symm) hown k_5 k_6 k_7 k_8 (Nat.le_of_ble_eq_true rfl) (Nat.le_of_ble_eq_true rfl) (Nat.le_of_ble_eq_true rfl) (Nat.le_of_ble_eq_true rfl) dX9_shared_168 ?_
                    refine lv_imul hx hb dX9_shared_171 ?_
                    obtain rfl := Option.some.inj hf
                    exact W.iret hx hb hr (fun t ht hW => ⟨⟨_, (), rfl, rfl, trivial⟩, hS.F ht⟩) hS.2.2 dX9_shared_172
                  · replace hf := x_in c_18 hf
                    refine lv_iload hx hb dX9_shared_159 (lv_at hl 2 rfl) ?_
                    refine lv_iconst (v := 1) hx hb dX9_shared_161 (by decide) ?_
                    refine lv_isub hx hb dX9_shared_162 ?_
                    refine lv_goto (tgt := 168) hx hb dX9_shared_163 (by decide) ?_
                    refine va_mmin hx hb (hml.trans hl.1.symm) hown k_5 k_6 k_7 k_8 (Nat.le_of_ble_eq_true rfl) (Nat.le_of_ble_eq_true rfl) (Nat.le_of_ble_eq_true rfl) (Nat.le_of_ble_eq_true rfl) dX9_shared_168 ?_
                    refine lv_imul hx hb dX9_shared_171 ?_
                    obtain rfl := Option.some.inj hf
                    exact W.iret hx hb hr (fun t ht hW => ⟨⟨_, (), rfl, rfl, trivial⟩, hS.F ht⟩) hS.2.2 dX9_shared_172
                · replace hf := x_in c_17 hf
                  refine lv_iload_n hx hb dX9_shared_145 rfl (lv_at hl 3 rfl) ?_
                  refine lv_iconst (v := 1) hx hb dX9_shared_146 (by decide) ?_
                  refine lv_isub hx hb dX9_shared_147 ?_
                  refine lv_goto (tgt := 152) hx hb dX9_shared_148 (by decide) ?_
                  refine lv_iload hx hb dX9_shared_152 (lv_at hl 0 rfl) ?_
                  refine lv_ldc (v := 65528) hx hb hown k_4 dX9_shared_154 ?_
                  refine lv_icmp_lt (tgt := 166) hx hb dX9_shared_156 (by decide) (fun c_19 => ?_) (fun c_19 => ?_)
                  · replace hf := x_ip c_19 hf
                    refine lv_iload hx hb dX9_shared_166 (lv_at hl 2 rfl) ?_
                    refine va_mmin hx hb (hml.trans hl.1.symm) hown k_5 k_6 k_7 k_8 (Nat.le_of_ble_eq_true rfl) (Nat.le_of_ble_eq_true rfl) (Nat.le_of_ble_eq_true rfl) (Nat.le_of_ble_eq_true rfl) dX9_shared_168 ?_
                    refine lv_imul hx hb dX9_shared_171 ?_
                    obtain rfl := Option.some.inj hf
                    exact W.iret hx hb hr (fun t ht hW => ⟨⟨_, (), rfl, rfl, trivial⟩, hS.F ht⟩) hS.2.2 dX9_shared_172
                  · replace hf := x_in c_19 hf
                    refine lv_iload hx hb dX9_shared_159 (lv_at hl 2 rfl) ?_
                    refine lv_iconst (v := 1) hx hb dX9_shared_161 (by decide) ?_
                    refine lv_isub hx hb dX9_shared_162 ?_
                    refine lv_goto (tgt := 168) hx hb dX9_shared_163 (by decide) ?_
                    refine va_mmin hx hb (hml.trans hl.1.symm) hown k_5 k_6 k_7 k_8 (Nat.le_of_ble_eq_true rfl) (Nat.le_of_ble_eq_true rfl) (Nat.le_of_ble_eq_true rfl) (Nat.le_of_ble_eq_true rfl) dX9_shared_168 ?_
                    refine lv_imul hx hb dX9_shared_171 ?_
                    obtain rfl := Option.some.inj hf
                    exact W.iret hx hb hr (fun t ht hW => ⟨⟨_, (), rfl, rfl, trivial⟩, hS.F ht⟩) hS.2.2 dX9_shared_172
              · replace hf := x_in c_16 hf
                refine lv_aload_n hx hb dX9_shared_122 rfl (lv_at hl 4 rfl) ?_
                refine lv_iload hx hb dX9_shared_123 (lv_at hl 1 rfl) ?_
                refine lv_iload hx hb dX9_shared_125 (lv_at hl 0 rfl) ?_
                obtain ⟨r_20, h_20, hf⟩ := x_bi hf
                have hPc := hP.sub (ws' := [(o9, .inr (9, x_O9 v9_0 v9_1 v9_2 v9_3 a9_4 a9_5 a9_6 a9_7 a9_8 a9_9 a9_10 a9_11 a9_12 v9_13 v9_14 v9_15 v9_16 v9_17 v9_18 a9_19 v9_20 v9_21 v9_22 a9_23 a9_24 a9_25 a9_26 a9_27 a9_28 a9_29 a9_30 a9_31 a9_32 a9_33 a9_34 v9_35 v9_36 a9_37 a9_38 a9_39 a9_40 a9_41 v9_42 a9_43 a9_44 a9_45 a9_46 a9_47 v9_48 v9_49 v9_50 v9_51 a9_52 a9_53 v9_54 v9_55 a9_56 a9_57 v9_58 a9_59 a9_60 a9_61)), (a9_4, .inl (cyI, 200, .inl g9_4)), (a9_5, .inl (cyZ, 200, .inl g9_5))]) [0, 1, 2] rfl
                refine va_calli (va_runV (As := [.int (p1 &&& 65535), .int (p2 &&& 65535)]) (rest := []) ⟨hx, hb, hml, hown, hts⟩ (c_X9_shared_0 l dC dI cyI cyZ cyJ H.size o9 v9_0 v9_1 v9_2 v9_3 a9_4 a9_5 a9_6 a9_7 a9_8 a9_9 a9_10 a9_11 a9_12 v9_13 v9_14 v9_15 v9_16 v9_17 v9_18 a9_19 v9_20 v9_21 v9_22 a9_23 a9_24 a9_25 a9_26 a9_27 a9_28 a9_29 a9_30 a9_31 a9_32 a9_33 a9_34 v9_35 v9_36 a9_37 a9_38 a9_39 a9_40 a9_41 v9_42 a9_43 a9_44 a9_45 a9_46 a9_47 v9_48 v9_49 v9_50 v9_51 a9_52 a9_53 v9_54 v9_55 a9_56 a9_57 v9_58 a9_59 a9_60 a9_61 g9_4 g9_5 (p1 &&& 65535) (p2 &&& 65535) r_20 h_20) (cwV 2 hts gX9_shared_X9_shared rfl rfl rfl (by decide +kernel) ⟨Nat.le_of_ble_eq_true rfl, Nat.le_of_ble_eq_true rfl⟩) (x_pV hN hK hPc (ci := 9) (q0 := 0) rfl rfl) rfl rfl hl.1 rfl (lv_room (Nat.le_of_ble_eq_true rfl)) dX9_shared_127 ⟨Nat.le_of_ble_eq_true rfl, Nat.le_of_ble_eq_true rfl⟩) hS x_nA (x_nf hA hS) (fun q_20 u t H1 locs ht hvm hw hB hz1 hk1 hS => ?_)
                have hP := x_kp hP hk1
                clear ht hvm hB hz1 hk1 t u hPc
                generalize H1 = H at hP hS ⊢
                obtain rfl := hw.symm
                refine lv_ldc (v := 65536) hx hb hown k_3 dX9_shared_130 ?_
                refine lv_iload_n hx hb dX9_shared_132 rfl (lv_at hl 3 rfl) ?_
                refine lv_imul hx hb dX9_shared_133 ?_
                refine lv_iadd hx hb dX9_shared_134 ?_
                obtain rfl := Option.some.inj hf
                exact W.iret hx hb hr (fun t ht hW => ⟨⟨_, (), rfl, rfl, trivial⟩, hS.F ht⟩) hS.2.2 dX9_shared_135
        · replace hf := x_ip c_7 hf
          refine lv_iconst (v := 0) hx hb dX9_shared_100 (by decide) ?_
          obtain rfl := Option.some.inj hf
          exact W.iret hx hb hr (fun t ht hW => ⟨⟨_, (), rfl, rfl, trivial⟩, hS.F ht⟩) hS.2.2 dX9_shared_101
    · replace hf := x_ip c_5 hf
      refine lv_iload hx hb dX9_shared_34 (lv_at hl 2 rfl) ?_
      refine lv_if_ne (tgt := 91) hx hb dX9_shared_36 (by decide) (fun c_21 => ?_) (fun c_21 => ?_)
      · replace hf := x_in c_21 hf
        refine lv_iload_n hx hb dX9_shared_91 rfl (lv_at hl 3 rfl) ?_
        refine lv_if_eq (tgt := 100) hx hb dX9_shared_92 (by decide) (fun c_22 => ?_) (fun c_22 => ?_)
        · replace hf := x_ip c_22 hf
          refine lv_iconst (v := 0) hx hb dX9_shared_100 (by decide) ?_
          obtain rfl := Option.some.inj hf
          exact W.iret hx hb hr (fun t ht hW => ⟨⟨_, (), rfl, rfl, trivial⟩, hS.F ht⟩) hS.2.2 dX9_shared_101
        · replace hf := x_in c_22 hf
          refine lv_iload hx hb dX9_shared_95 (lv_at hl 2 rfl) ?_
          refine lv_if_ne (tgt := 102) hx hb dX9_shared_97 (by decide) (fun c_23 => ?_) (fun c_23 => ?_)
          · replace hf := x_in c_23 hf
            refine lv_iload_n hx hb dX9_shared_102 rfl (lv_at hl 3 rfl) ?_
            refine lv_iload hx hb dX9_shared_103 (lv_at hl 2 rfl) ?_
            refine lv_icmp_ne (tgt := 136) hx hb dX9_shared_105 (by decide) (fun c_24 => ?_) (fun c_24 => ?_)
            · replace hf := x_in c_24 hf
              refine lv_ldc (v := 65536) hx hb hown k_3 dX9_shared_136 ?_
              refine lv_iload hx hb dX9_shared_138 (lv_at hl 1 rfl) ?_
              refine lv_ldc (v := 65528) hx hb hown k_4 dX9_shared_140 ?_
              refine lv_icmp_lt (tgt := 151) hx hb dX9_shared_142 (by decide) (fun c_25 => ?_) (fun c_25 => ?_)
              · replace hf := x_ip c_25 hf
                refine lv_iload_n hx hb dX9_shared_151 rfl (lv_at hl 3 rfl) ?_
                refine lv_iload hx hb dX9_shared_152 (lv_at hl 0 rfl) ?_
                refine lv_ldc (v := 65528) hx hb hown k_4 dX9_shared_154 ?_
                refine lv_icmp_lt (tgt := 166) hx hb dX9_shared_156 (by decide) (fun c_26 => ?_) (fun c_26 => ?_)
                · replace hf := x_ip c_26 hf
                  refine lv_iload hx hb dX9_shared_166 (lv_at hl 2 rfl) ?_
                  refine va_mmin hx hb (hml.trans hl.1.symm) hown k_5 k_6 k_7 k_8 (Nat.le_of_ble_eq_true rfl) (Nat.le_of_ble_eq_true rfl) (Nat.le_of_ble_eq_true rfl) (Nat.le_of_ble_eq_true rfl) dX9_shared_168 ?_
                  refine lv_imul hx hb dX9_shared_171 ?_
                  obtain rfl := Option.some.inj hf
                  exact W.iret hx hb hr (fun t ht hW => ⟨⟨_, (), rfl, rfl, trivial⟩, hS.F ht⟩) hS.2.2 dX9_shared_172
                · replace hf := x_in c_26 hf
                  refine lv_iload hx hb dX9_shared_159 (lv_at hl 2 rfl) ?_
                  refine lv_iconst (v := 1) hx hb dX9_shared_161 (by decide) ?_
                  refine lv_isub hx hb dX9_shared_162 ?_
                  refine lv_goto (tgt := 168) hx hb dX9_shared_163 (by decide) ?_
                  refine va_mmin hx hb (hml.trans hl.1.symm) hown k_5 k_6 k_7 k_8 (Nat.le_of_ble_eq_true rfl) (Nat.le_of_ble_eq_true rfl) (Nat.le_of_ble_eq_true rfl) (Nat.le_of_ble_eq_true rfl) dX9_shared_168 ?_
                  refine lv_imul hx hb dX9_shared_171 ?_
                  obtain rfl := Option.some.inj hf
                  exact W.iret hx hb hr (fun t ht hW => ⟨⟨_, (), rfl, rfl, trivial⟩, hS.F ht⟩) hS.2.2 dX9_shared_172
              · replace hf := x_in c_25 hf
                refine lv_iload_n hx hb dX9_shared_145 rfl (lv_at hl 3 rfl) ?_
                refine lv_iconst (v := 1) hx hb dX9_shared_146 (by decide) ?_
                refine lv_isub hx hb dX9_shared_147 ?_
                refine lv_goto (tgt := 152) hx hb dX9_shared_148 (by decide) ?_
                refine lv_iload hx hb dX9_shared_152 (lv_at hl 0 rfl) ?_
                refine lv_ldc (v := 65528) hx hb hown k_4 dX9_shared_154 ?_
                refine lv_icmp_lt (tgt := 166) hx hb dX9_shared_156 (by decide) (fun c_27 => ?_) (fun c_27 => ?_)
                · replace hf := x_ip c_27 hf
                  refine lv_iload hx hb dX9_shared_166 (lv_at hl 2 rfl) ?_
                  refine va_mmin hx hb (hml.trans hl.1.symm) hown k_5 k_6 k_7 k_8 (Nat.le_of_ble_eq_true rfl) (Nat.le_of_ble_eq_true rfl) (Nat.le_of_ble_eq_true rfl) (Nat.le_of_ble_eq_true rfl) dX9_shared_168 ?_
                  refine lv_imul hx hb dX9_shared_171 ?_
                  obtain rfl := Option.some.inj hf
                  exact W.iret hx hb hr (fun t ht hW => ⟨⟨_, (), rfl, rfl, trivial⟩, hS.F ht⟩) hS.2.2 dX9_shared_172
                · replace hf := x_in c_27 hf
                  refine lv_iload hx hb dX9_shared_159 (lv_at hl 2 rfl) ?_
                  refine lv_iconst (v := 1) hx hb dX9_shared_161 (by decide) ?_
                  refine lv_isub hx hb dX9_shared_162 ?_
                  refine lv_goto (tgt := 168) hx hb dX9_shared_163 (by decide) ?_
                  refine va_mmin hx hb (hml.trans hl.1.symm) hown k_5 k_6 k_7 k_8 (Nat.le_of_ble_eq_true rfl) (Nat.le_of_ble_eq_true rfl) (Nat.le_of_ble_eq_true rfl) (Nat.le_of_ble_eq_true rfl) dX9_shared_168 ?_
                  refine lv_imul hx hb dX9_shared_171 ?_
                  obtain rfl := Option.some.inj hf
                  exact W.iret hx hb hr (fun t ht hW => ⟨⟨_, (), rfl, rfl, trivial⟩, hS.F ht⟩) hS.2.2 dX9_shared_172
            · replace hf := x_ip c_24 hf
              refine lv_iload hx hb dX9_shared_108 (lv_at hl 1 rfl) ?_
              refine lv_ldc (v := 65528) hx hb hown k_4 dX9_shared_110 ?_
              refine lv_icmp_ge (tgt := 136) hx hb dX9_shared_112 (by decide) (fun c_28 => ?_) (fun c_28 => ?_)
              · replace hf := x_ip c_28 hf
                refine lv_ldc (v := 65536) hx hb hown k_3 dX9_shared_136 ?_
                refine lv_iload hx hb dX9_shared_138 (lv_at hl 1 rfl) ?_
                refine lv_ldc (v := 65528) hx hb hown k_4 dX9_shared_140 ?_
                refine lv_icmp_lt (tgt := 151) hx hb dX9_shared_142 (by decide) (fun c_29 => ?_) (fun c_29 => ?_)
                · replace hf := x_ip c_29 hf
                  refine lv_iload_n hx hb dX9_shared_151 rfl (lv_at hl 3 rfl) ?_
                  refine lv_iload hx hb dX9_shared_152 (lv_at hl 0 rfl) ?_
                  refine lv_ldc (v := 65528) hx hb hown k_4 dX9_shared_154 ?_
                  refine lv_icmp_lt (tgt := 166) hx hb dX9_shared_156 (by decide) (fun c_30 => ?_) (fun c_30 => ?_)
                  · replace hf := x_ip c_30 hf
                    refine lv_iload hx hb dX9_shared_166 (lv_at hl 2 rfl) ?_
                    refine va_mmin hx hb (hml.trans hl.1.symm) hown k_5 k_6 k_7 k_8 (Nat.le_of_ble_eq_true rfl) (Nat.le_of_ble_eq_true rfl) (Nat.le_of_ble_eq_true rfl) (Nat.le_of_ble_eq_true rfl) dX9_shared_168 ?_
                    refine lv_imul hx hb dX9_shared_171 ?_
                    obtain rfl := Option.some.inj hf
                    exact W.iret hx hb hr (fun t ht hW => ⟨⟨_, (), rfl, rfl, trivial⟩, hS.F ht⟩) hS.2.2 dX9_shared_172
                  · replace hf := x_in c_30 hf
                    refine lv_iload hx hb dX9_shared_159 (lv_at hl 2 rfl) ?_
                    refine lv_iconst (v := 1) hx hb dX9_shared_161 (by decide) ?_
                    refine lv_isub hx hb dX9_shared_162 ?_
                    refine lv_goto (tgt := 168) hx hb dX9_shared_163 (by decide) ?_
                    refine va_mmin hx hb (hml.trans hl.1.symm) hown k_5 k_6 k_7 k_8 (Nat.le_of_ble_eq_true rfl) (Nat.le_of_ble_eq_true rfl) (Nat.le_of_ble_eq_true rfl) (Nat.le_of_ble_eq_true rfl) dX9_shared_168 ?_
                    refine lv_imul hx hb dX9_shared_171 ?_
                    obtain rfl := Option.some.inj hf
                    exact W.iret hx hb hr (fun t ht hW => ⟨⟨_, (), rfl, rfl, trivial⟩, hS.F ht⟩) hS.2.2 dX9_shared_172
                · replace hf := x_in c_29 hf
                  refine lv_iload_n hx hb dX9_shared_145 rfl (lv_at hl 3 rfl) ?_
                  refine lv_iconst (v := 1) hx hb dX9_shared_146 (by decide) ?_
                  refine lv_isub hx hb dX9_shared_147 ?_
                  refine lv_goto (tgt := 152) hx hb dX9_shared_148 (by decide) ?_
                  refine lv_iload hx hb dX9_shared_152 (lv_at hl 0 rfl) ?_
                  refine lv_ldc (v := 65528) hx hb hown k_4 dX9_shared_154 ?_
                  refine lv_icmp_lt (tgt := 166) hx hb dX9_shared_156 (by decide) (fun c_31 => ?_) (fun c_31 => ?_)
                  · replace hf := x_ip c_31 hf
                    refine lv_iload hx hb dX9_shared_166 (lv_at hl 2 rfl) ?_
                    refine va_mmin hx hb (hml.trans hl.1.symm) hown k_5 k_6 k_7 k_8 (Nat.le_of_ble_eq_true rfl) (Nat.le_of_ble_eq_true rfl) (Nat.le_of_ble_eq_true rfl) (Nat.le_of_ble_eq_true rfl) dX9_shared_168 ?_
                    refine lv_imul hx hb dX9_shared_171 ?_
                    obtain rfl := Option.some.inj hf
                    exact W.iret hx hb hr (fun t ht hW => ⟨⟨_, (), rfl, rfl, trivial⟩, hS.F ht⟩) hS.2.2 dX9_shared_172
                  · replace hf := x_in c_31 hf
                    refine lv_iload hx hb dX9_shared_159 (lv_at hl 2 rfl) ?_
                    refine lv_iconst (v := 1) hx hb dX9_shared_161 (by decide) ?_
                    refine lv_isub hx hb dX9_shared_162 ?_
                    refine lv_goto (tgt := 168) hx hb dX9_shared_163 (by decide) ?_
                    refine va_mmin hx hb (hml.trans hl.1.symm) hown k_5 k_6 k_7 k_8 (Nat.le_of_ble_eq_true rfl) (Nat.le_of_ble_eq_true rfl) (Nat.le_of_ble_eq_true rfl) (Nat.le_of_ble_eq_true rfl) dX9_shared_168 ?_
                    refine lv_imul hx hb dX9_shared_171 ?_
                    obtain rfl := Option.some.inj hf
                    exact W.iret hx hb hr (fun t ht hW => ⟨⟨_, (), rfl, rfl, trivial⟩, hS.F ht⟩) hS.2.2 dX9_shared_172
              · replace hf := x_in c_28 hf
                refine lv_iload hx hb dX9_shared_115 (lv_at hl 0 rfl) ?_
                refine lv_ldc (v := 65528) hx hb hown k_4 dX9_shared_117 ?_
                refine lv_icmp_ge (tgt := 136) hx hb dX9_shared_119 (by decide) (fun c_32 => ?_) (fun c_32 => ?_)
                · replace hf := x_ip c_32 hf
                  refine lv_ldc (v := 65536) hx hb hown k_3 dX9_shared_136 ?_
                  refine lv_iload hx hb dX9_shared_138 (lv_at hl 1 rfl) ?_
                  refine lv_ldc (v := 65528) hx hb hown k_4 dX9_shared_140 ?_
                  refine lv_icmp_lt (tgt := 151) hx hb dX9_shared_142 (by decide) (fun c_33 => ?_) (fun c_33 => ?_)
                  · replace hf := x_ip c_33 hf
                    refine lv_iload_n hx hb dX9_shared_151 rfl (lv_at hl 3 rfl) ?_
                    refine lv_iload hx hb dX9_shared_152 (lv_at hl 0 rfl) ?_
                    refine lv_ldc (v := 65528) hx hb hown k_4 dX9_shared_154 ?_
                    refine lv_icmp_lt (tgt := 166) hx hb dX9_shared_156 (by decide) (fun c_34 => ?_) (fun c_34 => ?_)
                    · replace hf := x_ip c_34 hf
                      refine lv_iload hx hb dX9_shared_166 (lv_at hl 2 rfl) ?_
                      refine va_mmin hx hb (hml.trans hl.1.symm) hown k_5 k_6 k_7 k_8 (Nat.le_of_ble_eq_true rfl) (Nat.le_of_ble_eq_true rfl) (Nat.le_of_ble_eq_true rfl) (Nat.le_of_ble_eq_true rfl) dX9_shared_168 ?_
                      refine lv_imul hx hb dX9_shared_171 ?_
                      obtain rfl := Option.some.inj hf
                      exact W.iret hx hb hr (fun t ht hW => ⟨⟨_, (), rfl, rfl, trivial⟩, hS.F ht⟩) hS.2.2 dX9_shared_172
                    · replace hf := x_in c_34 hf
                      refine lv_iload hx hb dX9_shared_159 (lv_at hl 2 rfl) ?_
                      refine lv_iconst (v := 1) hx hb dX9_shared_161 (by decide) ?_
                      refine lv_isub hx hb dX9_shared_162 ?_
                      refine lv_goto (tgt := 168) hx hb dX9_shared_163 (by decide) ?_
                      refine va_mmin hx hb (hml.trans hl.1.symm) hown k_5 k_6 k_7 k_8 (Nat.le_of_ble_eq_true rfl) (Nat.le_of_ble_eq_true rfl) (Nat.le_of_ble_eq_true rfl) (Nat.le_of_ble_eq_true rfl) dX9_shared_168 ?_
                      refine lv_imul hx hb dX9_shared_171 ?_
                      obtain rfl := Option.some.inj hf
                      exact W.iret hx hb hr (fun t ht hW => ⟨⟨_, (), rfl, rfl, trivial⟩, hS.F ht⟩) hS.2.2 dX9_shared_172
                  · replace hf := x_in c_33 hf
                    refine lv_iload_n hx hb dX9_shared_145 rfl (lv_at hl 3 rfl) ?_
                    refine lv_iconst (v := 1) hx hb dX9_shared_146 (by decide) ?_
                    refine lv_isub hx hb dX9_shared_147 ?_
                    refine lv_goto (tgt := 152) hx hb dX9_shared_148 (by decide) ?_
                    refine lv_iload hx hb dX9_shared_152 (lv_at hl 0 rfl) ?_
                    refine lv_ldc (v := 65528) hx hb hown k_4 dX9_shared_154 ?_
                    refine lv_icmp_lt (tgt := 166) hx hb dX9_shared_156 (by decide) (fun c_35 => ?_) (fun c_35 => ?_)
                    · replace hf := x_ip c_35 hf
                      refine lv_iload hx hb dX9_shared_166 (lv_at hl 2 rfl) ?_
                      refine va_mmin hx hb (hml.trans hl.1.symm) hown k_5 k_6 k_7 k_8 (Nat.le_of_ble_eq_true rfl) (Nat.le_of_ble_eq_true rfl) (Nat.le_of_ble_eq_true rfl) (Nat.le_of_ble_eq_true rfl) dX9_shared_168 ?_
                      refine lv_imul hx hb dX9_shared_171 ?_
                      obtain rfl := Option.some.inj hf
                      exact W.iret hx hb hr (fun t ht hW => ⟨⟨_, (), rfl, rfl, trivial⟩, hS.F ht⟩) hS.2.2 dX9_shared_172
                    · replace hf := x_in c_35 hf
                      refine lv_iload hx hb dX9_shared_159 (lv_at hl 2 rfl) ?_
                      refine lv_iconst (v := 1) hx hb dX9_shared_161 (by decide) ?_
                      refine lv_isub hx hb dX9_shared_162 ?_
                      refine lv_goto (tgt := 168) hx hb dX9_shared_163 (by decide) ?_
                      refine va_mmin hx hb (hml.trans hl.1.symm) hown k_5 k_6 k_7 k_8 (Nat.le_of_ble_eq_true rfl) (Nat.le_of_ble_eq_true rfl) (Nat.le_of_ble_eq_true rfl) (Nat.le_of_ble_eq_true rfl) dX9_shared_168 ?_
                      refine lv_imul hx hb dX9_shared_171 ?_
                      obtain rfl := Option.some.inj hf
                      exact W.iret hx hb hr (fun t ht hW => ⟨⟨_, (), rfl, rfl, trivial⟩, hS.F ht⟩) hS.2.2 dX9_shared_172
                · replace hf := x_in c_32 hf
                  refine lv_aload_n hx hb dX9_shared_122 rfl (lv_at hl 4 rfl) ?_
                  refine lv_iload hx hb dX9_shared_123 (lv_at hl 1 rfl) ?_
                  refine lv_iload hx hb dX9_shared_125 (lv_at hl 0 rfl) ?_
                  obtain ⟨r_36, h_36, hf⟩ := x_bi hf
                  have hPc := hP.sub (ws' := [(o9, .inr (9, x_O9 v9_0 v9_1 v9_2 v9_3 a9_4 a9_5 a9_6 a9_7 a9_8 a9_9 a9_10 a9_11 a9_12 v9_13 v9_14 v9_15 v9_16 v9_17 v9_18 a9_19 v9_20 v9_21 v9_22 a9_23 a9_24 a9_25 a9_26 a9_27 a9_28 a9_29 a9_30 a9_31 a9_32 a9_33 a9_34 v9_35 v9_36 a9_37 a9_38 a9_39 a9_40 a9_41 v9_42 a9_43 a9_44 a9_45 a9_46 a9_47 v9_48 v9_49 v9_50 v9_51 a9_52 a9_53 v9_54 v9_55 a9_56 a9_57 v9_58 a9_59 a9_60 a9_61)), (a9_4, .inl (cyI, 200, .inl g9_4)), (a9_5, .inl (cyZ, 200, .inl g9_5))]) [0, 1, 2] rfl
                  refine va_calli (va_runV (As := [.int (p1 &&& 65535), .int (p2 &&& 65535)]) (rest := []) ⟨hx, hb, hml, hown, hts⟩ (c_X9_shared_0 l dC dI cyI cyZ cyJ H.size o9 v9_0 v9_1 v9_2 v9_3 a9_4 a9_5 a9_6 a9_7 a9_8 a9_9 a9_10 a9_11 a9_12 v9_13 v9_14 v9_15 v9_16 v9_17 v9_18 a9_19 v9_20 v9_21 v9_22 a9_23 a9_24 a9_25 a9_26 a9_27 a9_28 a9_29 a9_30 a9_31 a9_32 a9_33 a9_34 v9_35 v9_36 a9_37 a9_38 a9_39 a9_40 a9_41 v9_42 a9_43 a9_44 a9_45 a9_46 a9_47 v9_48 v9_49 v9_50 v9_51 a9_52 a9_53 v9_54 v9_55 a9_56 a9_57 v9_58 a9_59 a9_60 a9_61 g9_4 g9_5 (p1 &&& 65535) (p2 &&& 65535) r_36 h_36) (cwV 2 hts gX9_shared_X9_shared rfl rfl rfl (by decide +kernel) ⟨Nat.le_of_ble_eq_true rfl, Nat.le_of_ble_eq_true rfl⟩) (x_pV hN hK hPc (ci := 9) (q0 := 0) rfl rfl) rfl rfl hl.1 rfl (lv_room (Nat.le_of_ble_eq_true rfl)) dX9_shared_127 ⟨Nat.le_of_ble_eq_true rfl, Nat.le_of_ble_eq_true rfl⟩) hS x_nA (x_nf hA hS) (fun q_36 u t H1 locs ht hvm hw hB hz1 hk1 hS => ?_)
                  have hP := x_kp hP hk1
                  clear ht hvm hB hz1 hk1 t u hPc
                  generalize H1 = H at hP hS ⊢
                  obtain rfl := hw.symm
                  refine lv_ldc (v := 65536) hx hb hown k_3 dX9_shared_130 ?_
                  refine lv_iload_n hx hb dX9_shared_132 rfl (lv_at hl 3 rfl) ?_
                  refine lv_imul hx hb dX9_shared_133 ?_
                  refine lv_iadd hx hb dX9_shared_134 ?_
                  obtain rfl := Option.some.inj hf
                  exact W.iret hx hb hr (fun t ht hW => ⟨⟨_, (), rfl, rfl, trivial⟩, hS.F ht⟩) hS.2.2 dX9_shared_135
          · replace hf := x_ip c_23 hf
            refine lv_iconst (v := 0) hx hb dX9_shared_100 (by decide) ?_
            obtain rfl := Option.some.inj hf
            exact W.iret hx hb hr (fun t ht hW => ⟨⟨_, (), rfl, rfl, trivial⟩, hS.F ht⟩) hS.2.2 dX9_shared_101
      · replace hf := x_ip c_21 hf
        refine lv_aload_n hx hb dX9_shared_39 rfl (lv_at hl 4 rfl) ?_
        refine va_get (D := (dC, dI)) (ci := 9) (v := .ref a9_5) (C := RX9) (T := TX9) (N := 62) hx hb hts i_X9_shared_X9 hown hK hP 0 rfl rfl 5 (by decide) k_9 (fun _ h9 => h9) rfl dX9_shared_40 ?_
        refine lv_iload hx hb dX9_shared_43 (lv_at hl 1 rfl) ?_
        obtain ⟨g_37, hf⟩ := x_gu hf
        refine va_zald hx hb hK hP 2 1 rfl rfl (x_gdin g_37) dX9_shared_45 ?_
        refine lv_if_ne (tgt := 59) hx hb dX9_shared_46 (by decide) (fun c_38 => ?_) (fun c_38 => ?_)
        · replace hf := x_in c_38 hf
          refine lv_iconst (v := 0) hx hb dX9_shared_59 (by decide) ?_
          obtain rfl := Option.some.inj hf
          exact W.iret hx hb hr (fun t ht hW => ⟨⟨_, (), rfl, rfl, trivial⟩, hS.F ht⟩) hS.2.2 dX9_shared_60
        · replace hf := x_ip c_38 hf
          refine lv_aload_n hx hb dX9_shared_49 rfl (lv_at hl 4 rfl) ?_
          refine va_get (D := (dC, dI)) (ci := 9) (v := .ref a9_5) (C := RX9) (T := TX9) (N := 62) hx hb hts i_X9_shared_X9 hown hK hP 0 rfl rfl 5 (by decide) k_9 (fun _ h9 => h9) rfl dX9_shared_50 ?_
          refine lv_iload hx hb dX9_shared_53 (lv_at hl 0 rfl) ?_
          obtain ⟨g_39, hf⟩ := x_gu hf
          refine va_zald hx hb hK hP 2 1 rfl rfl (x_gdin g_39) dX9_shared_55 ?_
          refine lv_if_eq (tgt := 61) hx hb dX9_shared_56 (by decide) (fun c_40 => ?_) (fun c_40 => ?_)
          · replace hf := x_ip c_40 hf
            refine lv_iload hx hb dX9_shared_61 (lv_at hl 1 rfl) ?_
            refine lv_istore (lv' := [(7, .int (p1 &&& 65535)), (6, .int (p2 &&& 65535)), (5, .int (p1 &&& 65535)), (4, .int (p2 >>> (16 &&& 31))), (3, .int (p1 >>> (16 &&& 31))), (0, .ref o9), (1, .int p1), (2, .int p2)]) hx hb dX9_shared_63 hl (by decide) rfl (fun ls hl => ?_)
            exact (hWW _ _ _ _ _).mpr ((J (p2 &&& 65535) (0, p1 &&& 65535) _ hf rfl _ _ rfl) rfl H locs ls hP hS (lv_sub hl [5, 1, 0] rfl))
          · replace hf := x_in c_40 hf
            refine lv_iconst (v := 0) hx hb dX9_shared_59 (by decide) ?_
            obtain rfl := Option.some.inj hf
            exact W.iret hx hb hr (fun t ht hW => ⟨⟨_, (), rfl, rfl, trivial⟩, hS.F ht⟩) hS.2.2 dX9_shared_60
  · replace hf := x_ip c_4 hf
    refine lv_iload_n hx hb dX9_shared_5 rfl (lv_at hl 1 rfl) ?_
    obtain rfl := Option.some.inj hf
    exact W.iret hx hb hr (fun t ht hW => ⟨⟨_, (), rfl, rfl, trivial⟩, hS.F ht⟩) hS.2.2 dX9_shared_6

def f_X9_kindOf (p0 : Int32) : Option (Int32) := if p0 < (65528 : Int32) then some (((16 : Int32) * p0) + (8 : Int32)) else if p0 ≤ (65535 : Int32) then if p0 = (65530 : Int32) then some 2 else if p0 = (65531 : Int32) then some 4 else if p0 = (65535 : Int32) then some 3 else some 1 else some (((16 : Int32) * p0) + (8 : Int32))
set_option maxHeartbeats 4000000 in
set_option maxRecDepth 100000 in
theorem c_X9_kindOf (l : Launch) (dC : Nat → ClassId) (dI : Nat → Nat → Nat) (cyI cyZ cyJ : ClassId) (sz : Nat) (p0 : Int32) (R : Int32) (hf : f_X9_kindOf p0 = some R) : Met l yX9_kindOf wsX9_kindOf ({ frames := 0, cells := 0, slots := 0, locals := 0 }) (va_Pc [.int p0] (x_Pre (dC, dI) (x_T cyI cyZ cyJ) [] sz)) (va_Qi (fun (r : Int32) (_ : Unit) => r = R) (fun _ _ => True) (x_new sz)) 0 0 (x_new sz) := by
  refine Met.ofW (cc := cX9_kindOf) (maxL := 1) (ret := (some .int)) (by decide) rfl ?_
  intro p e s m args below meth c s₁ B hml hv
  obtain ⟨rfl, hsz, hP, hK, hN⟩ := hv
  have hx := B.exec
  have hb := B.bytes
  have hr := B.returns
  have hts := atoms_spec (ws := wsX9_kindOf) B.pre
  have hown : s.vm.findClass RX9 = some m.cls := findClass_of_methodNamed B.named
  have k_1 := hts (.constant RX9 140 (65528)) (by decide +kernel)
  have k_2 := hts (.constant RX9 142 (65535)) (by decide +kernel)
  have k_3 := hts (.constant RX9 214 (65530)) (by decide +kernel)
  have k_4 := hts (.constant RX9 147 (65531)) (by decide +kernel)
  subst hsz
  have hA : ∀ q : Nat, s.heap.size ≤ q → x_new s.heap.size q := fun _ h => h
  have hS : va_S (x_new s.heap.size) s.heap s.heap [] := va_S.rf
  have hP : va_P (dC, dI) vwCl [] s.heap := hP
  have hl := lv_entry ([.int p0]) (n := 1) (Nat.le_of_ble_eq_true rfl)
  rw [lg_entry_eq]
  generalize (lg_sl ([.int p0]) ++ List.replicate (1 - (lg_sl ([.int p0])).length) Slot.unset).toArray = ls at hl ⊢
  have hl : lv_has ls 1 [(0, .int p0)] := hl
  obtain ⟨H, hH⟩ : ∃ z, z = s.heap := ⟨_, rfl⟩
  refine x_here hH ?_
  have hP : va_P (dC, dI) vwCl [] H := by rw [hH]; exact hP
  have hS : va_S (x_new s.heap.size) s.heap H [] := by rw [hH]; exact va_S.rf
  clear hH
  obtain ⟨locs, hlo⟩ : ∃ z : List Loc, z = [] := ⟨_, rfl⟩
  refine x_herl hlo ?_
  have hS : va_S (x_new s.heap.size) s.heap H locs := by rw [hlo]; exact hS
  clear hlo
  unfold f_X9_kindOf at hf
  refine lv_iload_n hx hb dX9_kindOf_0 rfl (lv_at hl 0 rfl) ?_
  refine lv_ldc (v := 65528) hx hb hown k_1 dX9_kindOf_1 ?_
  refine lv_icmp_lt (tgt := 12) hx hb dX9_kindOf_3 (by decide) (fun c_1 => ?_) (fun c_1 => ?_)
  · replace hf := x_ip c_1 hf
    refine lv_bipush (v := 16) hx hb dX9_kindOf_12 (by decide) ?_
    refine lv_iload_n hx hb dX9_kindOf_14 rfl (lv_at hl 0 rfl) ?_
    refine lv_imul hx hb dX9_kindOf_15 ?_
    refine lv_bipush (v := 8) hx hb dX9_kindOf_16 (by decide) ?_
    refine lv_iadd hx hb dX9_kindOf_18 ?_
    obtain rfl := Option.some.inj hf
    exact W.iret hx hb hr (fun t ht hW => ⟨⟨_, (), rfl, rfl, trivial⟩, hS.F ht⟩) hS.2.2 dX9_kindOf_19
  · replace hf := x_in c_1 hf
    refine lv_iload_n hx hb dX9_kindOf_6 rfl (lv_at hl 0 rfl) ?_
    refine lv_ldc (v := 65535) hx hb hown k_2 dX9_kindOf_7 ?_
    refine lv_icmp_le (tgt := 20) hx hb dX9_kindOf_9 (by decide) (fun c_2 => ?_) (fun c_2 => ?_)
    · replace hf := x_ip c_2 hf
      refine lv_iload_n hx hb dX9_kindOf_20 rfl (lv_at hl 0 rfl) ?_
      refine lv_ldc (v := 65530) hx hb hown k_3 dX9_kindOf_21 ?_
      refine lv_icmp_ne (tgt := 30) hx hb dX9_kindOf_23 (by decide) (fun c_3 => ?_) (fun c_3 => ?_)
      · replace hf := x_in c_3 hf
        refine lv_iload_n hx hb dX9_kindOf_30 rfl (lv_at hl 0 rfl) ?_
        refine lv_ldc (v := 65531) hx hb hown k_4 dX9_kindOf_31 ?_
        refine lv_icmp_ne (tgt := 40) hx hb dX9_kindOf_33 (by decide) (fun c_4 => ?_) (fun c_4 => ?_)
        · replace hf := x_in c_4 hf
          refine lv_iload_n hx hb dX9_kindOf_40 rfl (lv_at hl 0 rfl) ?_
          refine lv_ldc (v := 65535) hx hb hown k_2 dX9_kindOf_41 ?_
          refine lv_icmp_ne (tgt := 50) hx hb dX9_kindOf_43 (by decide) (fun c_5 => ?_) (fun c_5 => ?_)
          · replace hf := x_in c_5 hf
            refine lv_iconst (v := 1) hx hb dX9_kindOf_50 (by decide) ?_
            obtain rfl := Option.some.inj hf
            exact W.iret hx hb hr (fun t ht hW => ⟨⟨_, (), rfl, rfl, trivial⟩, hS.F ht⟩) hS.2.2 dX9_kindOf_51
          · replace hf := x_ip c_5 hf
            refine lv_iconst (v := 3) hx hb dX9_kindOf_46 (by decide) ?_
            refine lv_goto (tgt := 51) hx hb dX9_kindOf_47 (by decide) ?_
            obtain rfl := Option.some.inj hf
            exact W.iret hx hb hr (fun t ht hW => ⟨⟨_, (), rfl, rfl, trivial⟩, hS.F ht⟩) hS.2.2 dX9_kindOf_51
        · replace hf := x_ip c_4 hf
          refine lv_iconst (v := 4) hx hb dX9_kindOf_36 (by decide) ?_
          refine lv_goto (tgt := 51) hx hb dX9_kindOf_37 (by decide) ?_
          obtain rfl := Option.some.inj hf
          exact W.iret hx hb hr (fun t ht hW => ⟨⟨_, (), rfl, rfl, trivial⟩, hS.F ht⟩) hS.2.2 dX9_kindOf_51
      · replace hf := x_ip c_3 hf
        refine lv_iconst (v := 2) hx hb dX9_kindOf_26 (by decide) ?_
        refine lv_goto (tgt := 51) hx hb dX9_kindOf_27 (by decide) ?_
        obtain rfl := Option.some.inj hf
        exact W.iret hx hb hr (fun t ht hW => ⟨⟨_, (), rfl, rfl, trivial⟩, hS.F ht⟩) hS.2.2 dX9_kindOf_51
    · replace hf := x_in c_2 hf
      refine lv_bipush (v := 16) hx hb dX9_kindOf_12 (by decide) ?_
      refine lv_iload_n hx hb dX9_kindOf_14 rfl (lv_at hl 0 rfl) ?_
      refine lv_imul hx hb dX9_kindOf_15 ?_
      refine lv_bipush (v := 8) hx hb dX9_kindOf_16 (by decide) ?_
      refine lv_iadd hx hb dX9_kindOf_18 ?_
      obtain rfl := Option.some.inj hf
      exact W.iret hx hb hr (fun t ht hW => ⟨⟨_, (), rfl, rfl, trivial⟩, hS.F ht⟩) hS.2.2 dX9_kindOf_19

def f_X9_isRef (p0 : Int32) : Option (Int32) := if p0 = (5 : Int32) then some 1 else if p0 = (6 : Int32) then some 1 else if (p0 &&& 15) = (8 : Int32) then some 1 else if (p0 &&& 15) = (9 : Int32) then some 1 else some 0
set_option maxHeartbeats 4000000 in
set_option maxRecDepth 100000 in
theorem c_X9_isRef (l : Launch) (dC : Nat → ClassId) (dI : Nat → Nat → Nat) (cyI cyZ cyJ : ClassId) (sz : Nat) (p0 : Int32) (R : Int32) (hf : f_X9_isRef p0 = some R) : Met l yX9_isRef wsX9_isRef ({ frames := 0, cells := 0, slots := 0, locals := 0 }) (va_Pc [.int p0] (x_Pre (dC, dI) (x_T cyI cyZ cyJ) [] sz)) (va_Qi (fun (r : Int32) (_ : Unit) => r = R ∧ x_nb r) (fun _ _ => True) (x_new sz)) 0 0 (x_new sz) := by
  refine Met.ofW (cc := cX9_isRef) (maxL := 1) (ret := (some .boolean)) (by decide) rfl ?_
  intro p e s m args below meth c s₁ B hml hv
  obtain ⟨rfl, hsz, hP, hK, hN⟩ := hv
  have hx := B.exec
  have hb := B.bytes
  have hr := B.returns
  have hts := atoms_spec (ws := wsX9_isRef) B.pre
  have hown : s.vm.findClass RX9 = some m.cls := findClass_of_methodNamed B.named
  subst hsz
  have hA : ∀ q : Nat, s.heap.size ≤ q → x_new s.heap.size q := fun _ h => h
  have hS : va_S (x_new s.heap.size) s.heap s.heap [] := va_S.rf
  have hP : va_P (dC, dI) vwCl [] s.heap := hP
  have hl := lv_entry ([.int p0]) (n := 1) (Nat.le_of_ble_eq_true rfl)
  rw [lg_entry_eq]
  generalize (lg_sl ([.int p0]) ++ List.replicate (1 - (lg_sl ([.int p0])).length) Slot.unset).toArray = ls at hl ⊢
  have hl : lv_has ls 1 [(0, .int p0)] := hl
  obtain ⟨H, hH⟩ : ∃ z, z = s.heap := ⟨_, rfl⟩
  refine x_here hH ?_
  have hP : va_P (dC, dI) vwCl [] H := by rw [hH]; exact hP
  have hS : va_S (x_new s.heap.size) s.heap H [] := by rw [hH]; exact va_S.rf
  clear hH
  obtain ⟨locs, hlo⟩ : ∃ z : List Loc, z = [] := ⟨_, rfl⟩
  refine x_herl hlo ?_
  have hS : va_S (x_new s.heap.size) s.heap H locs := by rw [hlo]; exact hS
  clear hlo
  unfold f_X9_isRef at hf
  refine lv_iload_n hx hb dX9_isRef_0 rfl (lv_at hl 0 rfl) ?_
  refine lv_iconst (v := 5) hx hb dX9_isRef_1 (by decide) ?_
  refine lv_icmp_eq (tgt := 29) hx hb dX9_isRef_2 (by decide) (fun c_1 => ?_) (fun c_1 => ?_)
  · replace hf := x_ip c_1 hf
    refine lv_iconst (v := 1) hx hb dX9_isRef_29 (by decide) ?_
    refine lv_goto (tgt := 34) hx hb dX9_isRef_30 (by decide) ?_
    obtain rfl := Option.some.inj hf
    exact W.zret (ty := .boolean) hx hb hr rfl (fun t ht hW => ⟨⟨_, (), rfl, ⟨rfl, rfl⟩, trivial⟩, hS.F ht⟩) hS.2.2 dX9_isRef_34
  · replace hf := x_in c_1 hf
    refine lv_iload_n hx hb dX9_isRef_5 rfl (lv_at hl 0 rfl) ?_
    refine lv_bipush (v := 6) hx hb dX9_isRef_6 (by decide) ?_
    refine lv_icmp_eq (tgt := 29) hx hb dX9_isRef_8 (by decide) (fun c_2 => ?_) (fun c_2 => ?_)
    · replace hf := x_ip c_2 hf
      refine lv_iconst (v := 1) hx hb dX9_isRef_29 (by decide) ?_
      refine lv_goto (tgt := 34) hx hb dX9_isRef_30 (by decide) ?_
      obtain rfl := Option.some.inj hf
      exact W.zret (ty := .boolean) hx hb hr rfl (fun t ht hW => ⟨⟨_, (), rfl, ⟨rfl, rfl⟩, trivial⟩, hS.F ht⟩) hS.2.2 dX9_isRef_34
    · replace hf := x_in c_2 hf
      refine lv_iload_n hx hb dX9_isRef_11 rfl (lv_at hl 0 rfl) ?_
      refine lv_bipush (v := 15) hx hb dX9_isRef_12 (by decide) ?_
      refine lv_iand hx hb dX9_isRef_14 ?_
      refine lv_bipush (v := 8) hx hb dX9_isRef_15 (by decide) ?_
      refine lv_icmp_eq (tgt := 29) hx hb dX9_isRef_17 (by decide) (fun c_3 => ?_) (fun c_3 => ?_)
      · replace hf := x_ip c_3 hf
        refine lv_iconst (v := 1) hx hb dX9_isRef_29 (by decide) ?_
        refine lv_goto (tgt := 34) hx hb dX9_isRef_30 (by decide) ?_
        obtain rfl := Option.some.inj hf
        exact W.zret (ty := .boolean) hx hb hr rfl (fun t ht hW => ⟨⟨_, (), rfl, ⟨rfl, rfl⟩, trivial⟩, hS.F ht⟩) hS.2.2 dX9_isRef_34
      · replace hf := x_in c_3 hf
        refine lv_iload_n hx hb dX9_isRef_20 rfl (lv_at hl 0 rfl) ?_
        refine lv_bipush (v := 15) hx hb dX9_isRef_21 (by decide) ?_
        refine lv_iand hx hb dX9_isRef_23 ?_
        refine lv_bipush (v := 9) hx hb dX9_isRef_24 (by decide) ?_
        refine lv_icmp_ne (tgt := 33) hx hb dX9_isRef_26 (by decide) (fun c_4 => ?_) (fun c_4 => ?_)
        · replace hf := x_in c_4 hf
          refine lv_iconst (v := 0) hx hb dX9_isRef_33 (by decide) ?_
          obtain rfl := Option.some.inj hf
          exact W.zret (ty := .boolean) hx hb hr rfl (fun t ht hW => ⟨⟨_, (), rfl, ⟨rfl, rfl⟩, trivial⟩, hS.F ht⟩) hS.2.2 dX9_isRef_34
        · replace hf := x_ip c_4 hf
          refine lv_iconst (v := 1) hx hb dX9_isRef_29 (by decide) ?_
          refine lv_goto (tgt := 34) hx hb dX9_isRef_30 (by decide) ?_
          obtain rfl := Option.some.inj hf
          exact W.zret (ty := .boolean) hx hb hr rfl (fun t ht hW => ⟨⟨_, (), rfl, ⟨rfl, rfl⟩, trivial⟩, hS.F ht⟩) hS.2.2 dX9_isRef_34

def f_X9_places (p0 : Int32) : Option (Int32) := if p0 = (3 : Int32) then some 2 else if p0 = (4 : Int32) then some 2 else some 1
set_option maxHeartbeats 4000000 in
set_option maxRecDepth 100000 in
theorem c_X9_places (l : Launch) (dC : Nat → ClassId) (dI : Nat → Nat → Nat) (cyI cyZ cyJ : ClassId) (sz : Nat) (p0 : Int32) (R : Int32) (hf : f_X9_places p0 = some R) : Met l yX9_places wsX9_places ({ frames := 0, cells := 0, slots := 0, locals := 0 }) (va_Pc [.int p0] (x_Pre (dC, dI) (x_T cyI cyZ cyJ) [] sz)) (va_Qi (fun (r : Int32) (_ : Unit) => r = R) (fun _ _ => True) (x_new sz)) 0 0 (x_new sz) := by
  refine Met.ofW (cc := cX9_places) (maxL := 1) (ret := (some .int)) (by decide) rfl ?_
  intro p e s m args below meth c s₁ B hml hv
  obtain ⟨rfl, hsz, hP, hK, hN⟩ := hv
  have hx := B.exec
  have hb := B.bytes
  have hr := B.returns
  have hts := atoms_spec (ws := wsX9_places) B.pre
  have hown : s.vm.findClass RX9 = some m.cls := findClass_of_methodNamed B.named
  subst hsz
  have hA : ∀ q : Nat, s.heap.size ≤ q → x_new s.heap.size q := fun _ h => h
  have hS : va_S (x_new s.heap.size) s.heap s.heap [] := va_S.rf
  have hP : va_P (dC, dI) vwCl [] s.heap := hP
  have hl := lv_entry ([.int p0]) (n := 1) (Nat.le_of_ble_eq_true rfl)
  rw [lg_entry_eq]
  generalize (lg_sl ([.int p0]) ++ List.replicate (1 - (lg_sl ([.int p0])).length) Slot.unset).toArray = ls at hl ⊢
  have hl : lv_has ls 1 [(0, .int p0)] := hl
  obtain ⟨H, hH⟩ : ∃ z, z = s.heap := ⟨_, rfl⟩
  refine x_here hH ?_
  have hP : va_P (dC, dI) vwCl [] H := by rw [hH]; exact hP
  have hS : va_S (x_new s.heap.size) s.heap H [] := by rw [hH]; exact va_S.rf
  clear hH
  obtain ⟨locs, hlo⟩ : ∃ z : List Loc, z = [] := ⟨_, rfl⟩
  refine x_herl hlo ?_
  have hS : va_S (x_new s.heap.size) s.heap H locs := by rw [hlo]; exact hS
  clear hlo
  unfold f_X9_places at hf
  refine lv_iload_n hx hb dX9_places_0 rfl (lv_at hl 0 rfl) ?_
  refine lv_iconst (v := 3) hx hb dX9_places_1 (by decide) ?_
  refine lv_icmp_eq (tgt := 10) hx hb dX9_places_2 (by decide) (fun c_1 => ?_) (fun c_1 => ?_)
  · replace hf := x_ip c_1 hf
    refine lv_iconst (v := 2) hx hb dX9_places_10 (by decide) ?_
    refine lv_goto (tgt := 15) hx hb dX9_places_11 (by decide) ?_
    obtain rfl := Option.some.inj hf
    exact W.iret hx hb hr (fun t ht hW => ⟨⟨_, (), rfl, rfl, trivial⟩, hS.F ht⟩) hS.2.2 dX9_places_15
  · replace hf := x_in c_1 hf
    refine lv_iload_n hx hb dX9_places_5 rfl (lv_at hl 0 rfl) ?_
    refine lv_iconst (v := 4) hx hb dX9_places_6 (by decide) ?_
    refine lv_icmp_ne (tgt := 14) hx hb dX9_places_7 (by decide) (fun c_2 => ?_) (fun c_2 => ?_)
    · replace hf := x_in c_2 hf
      refine lv_iconst (v := 1) hx hb dX9_places_14 (by decide) ?_
      obtain rfl := Option.some.inj hf
      exact W.iret hx hb hr (fun t ht hW => ⟨⟨_, (), rfl, rfl, trivial⟩, hS.F ht⟩) hS.2.2 dX9_places_15
    · replace hf := x_ip c_2 hf
      refine lv_iconst (v := 2) hx hb dX9_places_10 (by decide) ?_
      refine lv_goto (tgt := 15) hx hb dX9_places_11 (by decide) ?_
      obtain rfl := Option.some.inj hf
      exact W.iret hx hb hr (fun t ht hW => ⟨⟨_, (), rfl, rfl, trivial⟩, hS.F ht⟩) hS.2.2 dX9_places_15

def f_X9_size (v9_16 : Int32) (v9_17 : Int32) : Option (Int32) := some ((v9_16 + v9_17) + (2 : Int32))
theorem i_X9_size_X9 : ∀ w ∈ wsX90, w ∈ wsX9_size := fun _ h => List.mem_cons_of_mem _ (List.mem_append_right _ h)
set_option maxHeartbeats 4000000 in
set_option maxRecDepth 100000 in
theorem c_X9_size (l : Launch) (dC : Nat → ClassId) (dI : Nat → Nat → Nat) (cyI cyZ cyJ : ClassId) (sz : Nat) (o9 : Nat) (v9_0 : Int32) (v9_1 : Int32) (v9_2 : Int32) (v9_3 : Int32) (a9_4 : Nat) (a9_5 : Nat) (a9_6 : Nat) (a9_7 : Nat) (a9_8 : Nat) (a9_9 : Nat) (a9_10 : Nat) (a9_11 : Nat) (a9_12 : Nat) (v9_13 : Int32) (v9_14 : Int32) (v9_15 : Int32) (v9_16 : Int32) (v9_17 : Int32) (v9_18 : Int32) (a9_19 : Nat) (v9_20 : Int32) (v9_21 : Int32) (v9_22 : Int32) (a9_23 : Nat) (a9_24 : Nat) (a9_25 : Nat) (a9_26 : Nat) (a9_27 : Nat) (a9_28 : Nat) (a9_29 : Nat) (a9_30 : Nat) (a9_31 : Nat) (a9_32 : Nat) (a9_33 : Nat) (a9_34 : Nat) (v9_35 : Int32) (v9_36 : Int32) (a9_37 : Nat) (a9_38 : Nat) (a9_39 : Nat) (a9_40 : Nat) (a9_41 : Nat) (v9_42 : Int32) (a9_43 : Nat) (a9_44 : Nat) (a9_45 : Nat) (a9_46 : Nat) (a9_47 : Nat) (v9_48 : Int32) (v9_49 : Int32) (v9_50 : Int32) (v9_51 : Int32) (a9_52 : Nat) (a9_53 : Nat) (v9_54 : Int32) (v9_55 : Int32) (a9_56 : Nat) (a9_57 : Nat) (v9_58 : Int32) (a9_59 : Nat) (a9_60 : Nat) (a9_61 : Nat) (R : Int32) (hf : f_X9_size v9_16 v9_17 = some R) : Met l yX9_size wsX9_size ({ frames := 0, cells := 0, slots := 0, locals := 0 }) (va_Pc [.ref o9] (x_Pre (dC, dI) (x_T cyI cyZ cyJ) [(o9, .inr (9, x_O9 v9_0 v9_1 v9_2 v9_3 a9_4 a9_5 a9_6 a9_7 a9_8 a9_9 a9_10 a9_11 a9_12 v9_13 v9_14 v9_15 v9_16 v9_17 v9_18 a9_19 v9_20 v9_21 v9_22 a9_23 a9_24 a9_25 a9_26 a9_27 a9_28 a9_29 a9_30 a9_31 a9_32 a9_33 a9_34 v9_35 v9_36 a9_37 a9_38 a9_39 a9_40 a9_41 v9_42 a9_43 a9_44 a9_45 a9_46 a9_47 v9_48 v9_49 v9_50 v9_51 a9_52 a9_53 v9_54 v9_55 a9_56 a9_57 v9_58 a9_59 a9_60 a9_61))] sz)) (va_Qi (fun (r : Int32) (_ : Unit) => r = R) (fun _ _ => True) (x_new sz)) 0 0 (x_new sz) := by
  refine Met.ofW (cc := cX9_size) (maxL := 1) (ret := (some .int)) (by decide) rfl ?_
  intro p e s m args below meth c s₁ B hml hv
  obtain ⟨rfl, hsz, hP, hK, hN⟩ := hv
  have hx := B.exec
  have hb := B.bytes
  have hr := B.returns
  have hts := atoms_spec (ws := wsX9_size) B.pre
  have hown : s.vm.findClass RX9 = some m.cls := findClass_of_methodNamed B.named
  have k_1 := hts (.fieldLink RX9 170 "FlowJudgeModel" "maxL" "I") (by decide +kernel)
  have k_2 := hts (.fieldLink RX9 173 "FlowJudgeModel" "maxS" "I") (by decide +kernel)
  subst hsz
  have hA : ∀ q : Nat, s.heap.size ≤ q → x_new s.heap.size q := fun _ h => h
  have hS : va_S (x_new s.heap.size) s.heap s.heap [] := va_S.rf
  have hP : va_P (dC, dI) vwCl [(o9, .inr (9, x_O9 v9_0 v9_1 v9_2 v9_3 a9_4 a9_5 a9_6 a9_7 a9_8 a9_9 a9_10 a9_11 a9_12 v9_13 v9_14 v9_15 v9_16 v9_17 v9_18 a9_19 v9_20 v9_21 v9_22 a9_23 a9_24 a9_25 a9_26 a9_27 a9_28 a9_29 a9_30 a9_31 a9_32 a9_33 a9_34 v9_35 v9_36 a9_37 a9_38 a9_39 a9_40 a9_41 v9_42 a9_43 a9_44 a9_45 a9_46 a9_47 v9_48 v9_49 v9_50 v9_51 a9_52 a9_53 v9_54 v9_55 a9_56 a9_57 v9_58 a9_59 a9_60 a9_61))] s.heap := hP
  have hl := lv_entry ([.ref o9]) (n := 1) (Nat.le_of_ble_eq_true rfl)
  rw [lg_entry_eq]
  generalize (lg_sl ([.ref o9]) ++ List.replicate (1 - (lg_sl ([.ref o9])).length) Slot.unset).toArray = ls at hl ⊢
  have hl : lv_has ls 1 [(0, .ref o9)] := hl
  obtain ⟨H, hH⟩ : ∃ z, z = s.heap := ⟨_, rfl⟩
  refine x_here hH ?_
  have hP : va_P (dC, dI) vwCl [(o9, .inr (9, x_O9 v9_0 v9_1 v9_2 v9_3 a9_4 a9_5 a9_6 a9_7 a9_8 a9_9 a9_10 a9_11 a9_12 v9_13 v9_14 v9_15 v9_16 v9_17 v9_18 a9_19 v9_20 v9_21 v9_22 a9_23 a9_24 a9_25 a9_26 a9_27 a9_28 a9_29 a9_30 a9_31 a9_32 a9_33 a9_34 v9_35 v9_36 a9_37 a9_38 a9_39 a9_40 a9_41 v9_42 a9_43 a9_44 a9_45 a9_46 a9_47 v9_48 v9_49 v9_50 v9_51 a9_52 a9_53 v9_54 v9_55 a9_56 a9_57 v9_58 a9_59 a9_60 a9_61))] H := by rw [hH]; exact hP
  have hS : va_S (x_new s.heap.size) s.heap H [] := by rw [hH]; exact va_S.rf
  clear hH
  obtain ⟨locs, hlo⟩ : ∃ z : List Loc, z = [] := ⟨_, rfl⟩
  refine x_herl hlo ?_
  have hS : va_S (x_new s.heap.size) s.heap H locs := by rw [hlo]; exact hS
  clear hlo
  unfold f_X9_size at hf
  refine lv_aload_n hx hb dX9_size_0 rfl (lv_at hl 0 rfl) ?_
  refine va_get (D := (dC, dI)) (ci := 9) (v := .int v9_16) (C := RX9) (T := TX9) (N := 62) hx hb hts i_X9_size_X9 hown hK hP 0 rfl rfl 16 (by decide) k_1 (fun _ h9 => h9) rfl dX9_size_1 ?_
  refine lv_aload_n hx hb dX9_size_4 rfl (lv_at hl 0 rfl) ?_
  refine va_get (D := (dC, dI)) (ci := 9) (v := .int v9_17) (C := RX9) (T := TX9) (N := 62) hx hb hts i_X9_size_X9 hown hK hP 0 rfl rfl 17 (by decide) k_2 (fun _ h9 => h9) rfl dX9_size_5 ?_
  refine lv_iadd hx hb dX9_size_8 ?_
  refine lv_iconst (v := 2) hx hb dX9_size_9 (by decide) ?_
  refine lv_iadd hx hb dX9_size_10 ?_
  obtain rfl := Option.some.inj hf
  exact W.iret hx hb hr (fun t ht hW => ⟨⟨_, (), rfl, rfl, trivial⟩, hS.F ht⟩) hS.2.2 dX9_size_11

def f_X9_bad (v9_0 : Int32) : Option (Int32 × Int32) := some (0, 1)
theorem i_X9_bad_X9 : ∀ w ∈ wsX90, w ∈ wsX9_bad := fun _ h => List.mem_cons_of_mem _ (List.mem_append_right _ h)
set_option maxHeartbeats 4000000 in
set_option maxRecDepth 100000 in
theorem c_X9_bad (l : Launch) (dC : Nat → ClassId) (dI : Nat → Nat → Nat) (cyI cyZ cyJ : ClassId) (sz : Nat) (o9 : Nat) (v9_0 : Int32) (v9_1 : Int32) (v9_2 : Int32) (v9_3 : Int32) (a9_4 : Nat) (a9_5 : Nat) (a9_6 : Nat) (a9_7 : Nat) (a9_8 : Nat) (a9_9 : Nat) (a9_10 : Nat) (a9_11 : Nat) (a9_12 : Nat) (v9_13 : Int32) (v9_14 : Int32) (v9_15 : Int32) (v9_16 : Int32) (v9_17 : Int32) (v9_18 : Int32) (a9_19 : Nat) (v9_20 : Int32) (v9_21 : Int32) (v9_22 : Int32) (a9_23 : Nat) (a9_24 : Nat) (a9_25 : Nat) (a9_26 : Nat) (a9_27 : Nat) (a9_28 : Nat) (a9_29 : Nat) (a9_30 : Nat) (a9_31 : Nat) (a9_32 : Nat) (a9_33 : Nat) (a9_34 : Nat) (v9_35 : Int32) (v9_36 : Int32) (a9_37 : Nat) (a9_38 : Nat) (a9_39 : Nat) (a9_40 : Nat) (a9_41 : Nat) (v9_42 : Int32) (a9_43 : Nat) (a9_44 : Nat) (a9_45 : Nat) (a9_46 : Nat) (a9_47 : Nat) (v9_48 : Int32) (v9_49 : Int32) (v9_50 : Int32) (v9_51 : Int32) (a9_52 : Nat) (a9_53 : Nat) (v9_54 : Int32) (v9_55 : Int32) (a9_56 : Nat) (a9_57 : Nat) (v9_58 : Int32) (a9_59 : Nat) (a9_60 : Nat) (a9_61 : Nat) (R : Int32 × Int32) (hf : f_X9_bad v9_0 = some R) : Met l yX9_bad wsX9_bad ({ frames := 0, cells := 0, slots := 0, locals := 0 }) (va_Pc [.ref o9] (x_PreD (dC, dI) (x_T cyI cyZ cyJ) [(o9, .inr (9, x_O9 v9_0 v9_1 v9_2 v9_3 a9_4 a9_5 a9_6 a9_7 a9_8 a9_9 a9_10 a9_11 a9_12 v9_13 v9_14 v9_15 v9_16 v9_17 v9_18 a9_19 v9_20 v9_21 v9_22 a9_23 a9_24 a9_25 a9_26 a9_27 a9_28 a9_29 a9_30 a9_31 a9_32 a9_33 a9_34 v9_35 v9_36 a9_37 a9_38 a9_39 a9_40 a9_41 v9_42 a9_43 a9_44 a9_45 a9_46 a9_47 v9_48 v9_49 v9_50 v9_51 a9_52 a9_53 v9_54 v9_55 a9_56 a9_57 v9_58 a9_59 a9_60 a9_61))] sz)) (va_Qi (fun (r : Int32) (_ : Unit) => r = R.1) (fun (_ : Unit) (t : State) => va_P (dC, dI) vwCl [(o9, .inr (9, x_O9 (R.2) v9_1 v9_2 v9_3 a9_4 a9_5 a9_6 a9_7 a9_8 a9_9 a9_10 a9_11 a9_12 v9_13 v9_14 v9_15 v9_16 v9_17 v9_18 a9_19 v9_20 v9_21 v9_22 a9_23 a9_24 a9_25 a9_26 a9_27 a9_28 a9_29 a9_30 a9_31 a9_32 a9_33 a9_34 v9_35 v9_36 a9_37 a9_38 a9_39 a9_40 a9_41 v9_42 a9_43 a9_44 a9_45 a9_46 a9_47 v9_48 v9_49 v9_50 v9_51 a9_52 a9_53 v9_54 v9_55 a9_56 a9_57 v9_58 a9_59 a9_60 a9_61))] t.heap ∧ va_K (dC, dI) vwCl (x_T cyI cyZ cyJ) t ∧ va_D (va_A [(o9, .inr (9, x_O9 v9_0 v9_1 v9_2 v9_3 a9_4 a9_5 a9_6 a9_7 a9_8 a9_9 a9_10 a9_11 a9_12 v9_13 v9_14 v9_15 v9_16 v9_17 v9_18 a9_19 v9_20 v9_21 v9_22 a9_23 a9_24 a9_25 a9_26 a9_27 a9_28 a9_29 a9_30 a9_31 a9_32 a9_33 a9_34 v9_35 v9_36 a9_37 a9_38 a9_39 a9_40 a9_41 v9_42 a9_43 a9_44 a9_45 a9_46 a9_47 v9_48 v9_49 v9_50 v9_51 a9_52 a9_53 v9_54 v9_55 a9_56 a9_57 v9_58 a9_59 a9_60 a9_61))] sz) [(o9, .inr (9, x_O9 (R.2) v9_1 v9_2 v9_3 a9_4 a9_5 a9_6 a9_7 a9_8 a9_9 a9_10 a9_11 a9_12 v9_13 v9_14 v9_15 v9_16 v9_17 v9_18 a9_19 v9_20 v9_21 v9_22 a9_23 a9_24 a9_25 a9_26 a9_27 a9_28 a9_29 a9_30 a9_31 a9_32 a9_33 a9_34 v9_35 v9_36 a9_37 a9_38 a9_39 a9_40 a9_41 v9_42 a9_43 a9_44 a9_45 a9_46 a9_47 v9_48 v9_49 v9_50 v9_51 a9_52 a9_53 v9_54 v9_55 a9_56 a9_57 v9_58 a9_59 a9_60 a9_61))]) (va_A [(o9, .inr (9, x_O9 v9_0 v9_1 v9_2 v9_3 a9_4 a9_5 a9_6 a9_7 a9_8 a9_9 a9_10 a9_11 a9_12 v9_13 v9_14 v9_15 v9_16 v9_17 v9_18 a9_19 v9_20 v9_21 v9_22 a9_23 a9_24 a9_25 a9_26 a9_27 a9_28 a9_29 a9_30 a9_31 a9_32 a9_33 a9_34 v9_35 v9_36 a9_37 a9_38 a9_39 a9_40 a9_41 v9_42 a9_43 a9_44 a9_45 a9_46 a9_47 v9_48 v9_49 v9_50 v9_51 a9_52 a9_53 v9_54 v9_55 a9_56 a9_57 v9_58 a9_59 a9_60 a9_61))] sz)) 0 0 (va_A [(o9, .inr (9, x_O9 v9_0 v9_1 v9_2 v9_3 a9_4 a9_5 a9_6 a9_7 a9_8 a9_9 a9_10 a9_11 a9_12 v9_13 v9_14 v9_15 v9_16 v9_17 v9_18 a9_19 v9_20 v9_21 v9_22 a9_23 a9_24 a9_25 a9_26 a9_27 a9_28 a9_29 a9_30 a9_31 a9_32 a9_33 a9_34 v9_35 v9_36 a9_37 a9_38 a9_39 a9_40 a9_41 v9_42 a9_43 a9_44 a9_45 a9_46 a9_47 v9_48 v9_49 v9_50 v9_51 a9_52 a9_53 v9_54 v9_55 a9_56 a9_57 v9_58 a9_59 a9_60 a9_61))] sz) := by
  refine Met.ofW (cc := cX9_bad) (maxL := 1) (ret := (some .int)) (by decide) rfl ?_
  intro p e s m args below meth c s₁ B hml hv
  obtain ⟨rfl, ⟨hsz, hP, hK, hN⟩, hD0⟩ := hv
  have hx := B.exec
  have hb := B.bytes
  have hr := B.returns
  have hts := atoms_spec (ws := wsX9_bad) B.pre
  have hown : s.vm.findClass RX9 = some m.cls := findClass_of_methodNamed B.named
  have k_1 := hts (.fieldLink RX9 1 "FlowJudgeModel" "thrown" "I") (by decide +kernel)
  subst hsz
  have hD := hD0.self (sz := s.heap.size)
  generalize hAe : va_A [(o9, .inr (9, x_O9 v9_0 v9_1 v9_2 v9_3 a9_4 a9_5 a9_6 a9_7 a9_8 a9_9 a9_10 a9_11 a9_12 v9_13 v9_14 v9_15 v9_16 v9_17 v9_18 a9_19 v9_20 v9_21 v9_22 a9_23 a9_24 a9_25 a9_26 a9_27 a9_28 a9_29 a9_30 a9_31 a9_32 a9_33 a9_34 v9_35 v9_36 a9_37 a9_38 a9_39 a9_40 a9_41 v9_42 a9_43 a9_44 a9_45 a9_46 a9_47 v9_48 v9_49 v9_50 v9_51 a9_52 a9_53 v9_54 v9_55 a9_56 a9_57 v9_58 a9_59 a9_60 a9_61))] s.heap.size = A at hD ⊢
  have hA : ∀ q : Nat, s.heap.size ≤ q → A q := fun q h => by rw [← hAe]; exact Or.inr h
  have hP : va_P (dC, dI) vwCl [(o9, .inr (9, x_O9 v9_0 v9_1 v9_2 v9_3 a9_4 a9_5 a9_6 a9_7 a9_8 a9_9 a9_10 a9_11 a9_12 v9_13 v9_14 v9_15 v9_16 v9_17 v9_18 a9_19 v9_20 v9_21 v9_22 a9_23 a9_24 a9_25 a9_26 a9_27 a9_28 a9_29 a9_30 a9_31 a9_32 a9_33 a9_34 v9_35 v9_36 a9_37 a9_38 a9_39 a9_40 a9_41 v9_42 a9_43 a9_44 a9_45 a9_46 a9_47 v9_48 v9_49 v9_50 v9_51 a9_52 a9_53 v9_54 v9_55 a9_56 a9_57 v9_58 a9_59 a9_60 a9_61))] s.heap := hP
  have hl := lv_entry ([.ref o9]) (n := 1) (Nat.le_of_ble_eq_true rfl)
  rw [lg_entry_eq]
  generalize (lg_sl ([.ref o9]) ++ List.replicate (1 - (lg_sl ([.ref o9])).length) Slot.unset).toArray = ls at hl ⊢
  have hl : lv_has ls 1 [(0, .ref o9)] := hl
  obtain ⟨H, hH⟩ : ∃ z, z = s.heap := ⟨_, rfl⟩
  refine x_here hH ?_
  have hP : va_P (dC, dI) vwCl [(o9, .inr (9, x_O9 v9_0 v9_1 v9_2 v9_3 a9_4 a9_5 a9_6 a9_7 a9_8 a9_9 a9_10 a9_11 a9_12 v9_13 v9_14 v9_15 v9_16 v9_17 v9_18 a9_19 v9_20 v9_21 v9_22 a9_23 a9_24 a9_25 a9_26 a9_27 a9_28 a9_29 a9_30 a9_31 a9_32 a9_33 a9_34 v9_35 v9_36 a9_37 a9_38 a9_39 a9_40 a9_41 v9_42 a9_43 a9_44 a9_45 a9_46 a9_47 v9_48 v9_49 v9_50 v9_51 a9_52 a9_53 v9_54 v9_55 a9_56 a9_57 v9_58 a9_59 a9_60 a9_61))] H := by rw [hH]; exact hP
  have hS : va_S A s.heap H [] := by rw [hH]; exact va_S.rf
  clear hH
  obtain ⟨locs, hlo⟩ : ∃ z : List Loc, z = [] := ⟨_, rfl⟩
  refine x_herl hlo ?_
  have hS : va_S A s.heap H locs := by rw [hlo]; exact hS
  clear hlo
  unfold f_X9_bad at hf
  refine lv_aload_n hx hb dX9_bad_0 rfl (lv_at hl 0 rfl) ?_
  refine lv_iconst (v := 1) hx hb dX9_bad_1 (by decide) ?_
  refine va_put (D := (dC, dI)) (ci := 9) (v := .int 1) (ty := .int) (C := RX9) (T := TX9) (N := 62) hx hb hts i_X9_bad_X9 tyX9 tyX9_ok nmX9 hown hK hP hD hS 0 rfl rfl 0 (by decide) k_1 (fun _ h9 => h9) rfl (by decide +kernel) rfl rfl (Nat.le_of_ble_eq_true rfl) dX9_bad_2 (fun H locs hP hD hS => ?_)
  have hP : va_P (dC, dI) vwCl [(o9, .inr (9, x_O9 1 v9_1 v9_2 v9_3 a9_4 a9_5 a9_6 a9_7 a9_8 a9_9 a9_10 a9_11 a9_12 v9_13 v9_14 v9_15 v9_16 v9_17 v9_18 a9_19 v9_20 v9_21 v9_22 a9_23 a9_24 a9_25 a9_26 a9_27 a9_28 a9_29 a9_30 a9_31 a9_32 a9_33 a9_34 v9_35 v9_36 a9_37 a9_38 a9_39 a9_40 a9_41 v9_42 a9_43 a9_44 a9_45 a9_46 a9_47 v9_48 v9_49 v9_50 v9_51 a9_52 a9_53 v9_54 v9_55 a9_56 a9_57 v9_58 a9_59 a9_60 a9_61))] H := hP
  have hD : va_D A [(o9, .inr (9, x_O9 1 v9_1 v9_2 v9_3 a9_4 a9_5 a9_6 a9_7 a9_8 a9_9 a9_10 a9_11 a9_12 v9_13 v9_14 v9_15 v9_16 v9_17 v9_18 a9_19 v9_20 v9_21 v9_22 a9_23 a9_24 a9_25 a9_26 a9_27 a9_28 a9_29 a9_30 a9_31 a9_32 a9_33 a9_34 v9_35 v9_36 a9_37 a9_38 a9_39 a9_40 a9_41 v9_42 a9_43 a9_44 a9_45 a9_46 a9_47 v9_48 v9_49 v9_50 v9_51 a9_52 a9_53 v9_54 v9_55 a9_56 a9_57 v9_58 a9_59 a9_60 a9_61))] := hD
  refine lv_iconst (v := 0) hx hb dX9_bad_5 (by decide) ?_
  obtain rfl := Option.some.inj hf
  have hP9 := hP.sub (ws' := [(o9, .inr (9, x_O9 1 v9_1 v9_2 v9_3 a9_4 a9_5 a9_6 a9_7 a9_8 a9_9 a9_10 a9_11 a9_12 v9_13 v9_14 v9_15 v9_16 v9_17 v9_18 a9_19 v9_20 v9_21 v9_22 a9_23 a9_24 a9_25 a9_26 a9_27 a9_28 a9_29 a9_30 a9_31 a9_32 a9_33 a9_34 v9_35 v9_36 a9_37 a9_38 a9_39 a9_40 a9_41 v9_42 a9_43 a9_44 a9_45 a9_46 a9_47 v9_48 v9_49 v9_50 v9_51 a9_52 a9_53 v9_54 v9_55 a9_56 a9_57 v9_58 a9_59 a9_60 a9_61))]) [0] rfl
  have hD9 := hD.sub (ws' := [(o9, .inr (9, x_O9 1 v9_1 v9_2 v9_3 a9_4 a9_5 a9_6 a9_7 a9_8 a9_9 a9_10 a9_11 a9_12 v9_13 v9_14 v9_15 v9_16 v9_17 v9_18 a9_19 v9_20 v9_21 v9_22 a9_23 a9_24 a9_25 a9_26 a9_27 a9_28 a9_29 a9_30 a9_31 a9_32 a9_33 a9_34 v9_35 v9_36 a9_37 a9_38 a9_39 a9_40 a9_41 v9_42 a9_43 a9_44 a9_45 a9_46 a9_47 v9_48 v9_49 v9_50 v9_51 a9_52 a9_53 v9_54 v9_55 a9_56 a9_57 v9_58 a9_59 a9_60 a9_61))]) [0] (by decide) rfl
  exact W.iret hx hb hr (fun t ht hW => ⟨⟨_, (), rfl, rfl, by rw [ht]; exact hP9, va_K.moved hW.alike hK, hD9⟩, hS.F ht⟩) hS.2.2 dX9_bad_6

def f_X9_full (v9_0 : Int32) : Option (Int32 × Int32) := some (0, 2)
theorem i_X9_full_X9 : ∀ w ∈ wsX90, w ∈ wsX9_full := fun _ h => List.mem_cons_of_mem _ (List.mem_append_right _ h)
set_option maxHeartbeats 4000000 in
set_option maxRecDepth 100000 in
theorem c_X9_full (l : Launch) (dC : Nat → ClassId) (dI : Nat → Nat → Nat) (cyI cyZ cyJ : ClassId) (sz : Nat) (o9 : Nat) (v9_0 : Int32) (v9_1 : Int32) (v9_2 : Int32) (v9_3 : Int32) (a9_4 : Nat) (a9_5 : Nat) (a9_6 : Nat) (a9_7 : Nat) (a9_8 : Nat) (a9_9 : Nat) (a9_10 : Nat) (a9_11 : Nat) (a9_12 : Nat) (v9_13 : Int32) (v9_14 : Int32) (v9_15 : Int32) (v9_16 : Int32) (v9_17 : Int32) (v9_18 : Int32) (a9_19 : Nat) (v9_20 : Int32) (v9_21 : Int32) (v9_22 : Int32) (a9_23 : Nat) (a9_24 : Nat) (a9_25 : Nat) (a9_26 : Nat) (a9_27 : Nat) (a9_28 : Nat) (a9_29 : Nat) (a9_30 : Nat) (a9_31 : Nat) (a9_32 : Nat) (a9_33 : Nat) (a9_34 : Nat) (v9_35 : Int32) (v9_36 : Int32) (a9_37 : Nat) (a9_38 : Nat) (a9_39 : Nat) (a9_40 : Nat) (a9_41 : Nat) (v9_42 : Int32) (a9_43 : Nat) (a9_44 : Nat) (a9_45 : Nat) (a9_46 : Nat) (a9_47 : Nat) (v9_48 : Int32) (v9_49 : Int32) (v9_50 : Int32) (v9_51 : Int32) (a9_52 : Nat) (a9_53 : Nat) (v9_54 : Int32) (v9_55 : Int32) (a9_56 : Nat) (a9_57 : Nat) (v9_58 : Int32) (a9_59 : Nat) (a9_60 : Nat) (a9_61 : Nat) (R : Int32 × Int32) (hf : f_X9_full v9_0 = some R) : Met l yX9_full wsX9_full ({ frames := 0, cells := 0, slots := 0, locals := 0 }) (va_Pc [.ref o9] (x_PreD (dC, dI) (x_T cyI cyZ cyJ) [(o9, .inr (9, x_O9 v9_0 v9_1 v9_2 v9_3 a9_4 a9_5 a9_6 a9_7 a9_8 a9_9 a9_10 a9_11 a9_12 v9_13 v9_14 v9_15 v9_16 v9_17 v9_18 a9_19 v9_20 v9_21 v9_22 a9_23 a9_24 a9_25 a9_26 a9_27 a9_28 a9_29 a9_30 a9_31 a9_32 a9_33 a9_34 v9_35 v9_36 a9_37 a9_38 a9_39 a9_40 a9_41 v9_42 a9_43 a9_44 a9_45 a9_46 a9_47 v9_48 v9_49 v9_50 v9_51 a9_52 a9_53 v9_54 v9_55 a9_56 a9_57 v9_58 a9_59 a9_60 a9_61))] sz)) (va_Qi (fun (r : Int32) (_ : Unit) => r = R.1) (fun (_ : Unit) (t : State) => va_P (dC, dI) vwCl [(o9, .inr (9, x_O9 (R.2) v9_1 v9_2 v9_3 a9_4 a9_5 a9_6 a9_7 a9_8 a9_9 a9_10 a9_11 a9_12 v9_13 v9_14 v9_15 v9_16 v9_17 v9_18 a9_19 v9_20 v9_21 v9_22 a9_23 a9_24 a9_25 a9_26 a9_27 a9_28 a9_29 a9_30 a9_31 a9_32 a9_33 a9_34 v9_35 v9_36 a9_37 a9_38 a9_39 a9_40 a9_41 v9_42 a9_43 a9_44 a9_45 a9_46 a9_47 v9_48 v9_49 v9_50 v9_51 a9_52 a9_53 v9_54 v9_55 a9_56 a9_57 v9_58 a9_59 a9_60 a9_61))] t.heap ∧ va_K (dC, dI) vwCl (x_T cyI cyZ cyJ) t ∧ va_D (va_A [(o9, .inr (9, x_O9 v9_0 v9_1 v9_2 v9_3 a9_4 a9_5 a9_6 a9_7 a9_8 a9_9 a9_10 a9_11 a9_12 v9_13 v9_14 v9_15 v9_16 v9_17 v9_18 a9_19 v9_20 v9_21 v9_22 a9_23 a9_24 a9_25 a9_26 a9_27 a9_28 a9_29 a9_30 a9_31 a9_32 a9_33 a9_34 v9_35 v9_36 a9_37 a9_38 a9_39 a9_40 a9_41 v9_42 a9_43 a9_44 a9_45 a9_46 a9_47 v9_48 v9_49 v9_50 v9_51 a9_52 a9_53 v9_54 v9_55 a9_56 a9_57 v9_58 a9_59 a9_60 a9_61))] sz) [(o9, .inr (9, x_O9 (R.2) v9_1 v9_2 v9_3 a9_4 a9_5 a9_6 a9_7 a9_8 a9_9 a9_10 a9_11 a9_12 v9_13 v9_14 v9_15 v9_16 v9_17 v9_18 a9_19 v9_20 v9_21 v9_22 a9_23 a9_24 a9_25 a9_26 a9_27 a9_28 a9_29 a9_30 a9_31 a9_32 a9_33 a9_34 v9_35 v9_36 a9_37 a9_38 a9_39 a9_40 a9_41 v9_42 a9_43 a9_44 a9_45 a9_46 a9_47 v9_48 v9_49 v9_50 v9_51 a9_52 a9_53 v9_54 v9_55 a9_56 a9_57 v9_58 a9_59 a9_60 a9_61))]) (va_A [(o9, .inr (9, x_O9 v9_0 v9_1 v9_2 v9_3 a9_4 a9_5 a9_6 a9_7 a9_8 a9_9 a9_10 a9_11 a9_12 v9_13 v9_14 v9_15 v9_16 v9_17 v9_18 a9_19 v9_20 v9_21 v9_22 a9_23 a9_24 a9_25 a9_26 a9_27 a9_28 a9_29 a9_30 a9_31 a9_32 a9_33 a9_34 v9_35 v9_36 a9_37 a9_38 a9_39 a9_40 a9_41 v9_42 a9_43 a9_44 a9_45 a9_46 a9_47 v9_48 v9_49 v9_50 v9_51 a9_52 a9_53 v9_54 v9_55 a9_56 a9_57 v9_58 a9_59 a9_60 a9_61))] sz)) 0 0 (va_A [(o9, .inr (9, x_O9 v9_0 v9_1 v9_2 v9_3 a9_4 a9_5 a9_6 a9_7 a9_8 a9_9 a9_10 a9_11 a9_12 v9_13 v9_14 v9_15 v9_16 v9_17 v9_18 a9_19 v9_20 v9_21 v9_22 a9_23 a9_24 a9_25 a9_26 a9_27 a9_28 a9_29 a9_30 a9_31 a9_32 a9_33 a9_34 v9_35 v9_36 a9_37 a9_38 a9_39 a9_40 a9_41 v9_42 a9_43 a9_44 a9_45 a9_46 a9_47 v9_48 v9_49 v9_50 v9_51 a9_52 a9_53 v9_54 v9_55 a9_56 a9_57 v9_58 a9_59 a9_60 a9_61))] sz) := by
  refine Met.ofW (cc := cX9_full) (maxL := 1) (ret := (some .int)) (by decide) rfl ?_
  intro p e s m args below meth c s₁ B hml hv
  obtain ⟨rfl, ⟨hsz, hP, hK, hN⟩, hD0⟩ := hv
  have hx := B.exec
  have hb := B.bytes
  have hr := B.returns
  have hts := atoms_spec (ws := wsX9_full) B.pre
  have hown : s.vm.findClass RX9 = some m.cls := findClass_of_methodNamed B.named
  have k_1 := hts (.fieldLink RX9 1 "FlowJudgeModel" "thrown" "I") (by decide +kernel)
  subst hsz
  have hD := hD0.self (sz := s.heap.size)
  generalize hAe : va_A [(o9, .inr (9, x_O9 v9_0 v9_1 v9_2 v9_3 a9_4 a9_5 a9_6 a9_7 a9_8 a9_9 a9_10 a9_11 a9_12 v9_13 v9_14 v9_15 v9_16 v9_17 v9_18 a9_19 v9_20 v9_21 v9_22 a9_23 a9_24 a9_25 a9_26 a9_27 a9_28 a9_29 a9_30 a9_31 a9_32 a9_33 a9_34 v9_35 v9_36 a9_37 a9_38 a9_39 a9_40 a9_41 v9_42 a9_43 a9_44 a9_45 a9_46 a9_47 v9_48 v9_49 v9_50 v9_51 a9_52 a9_53 v9_54 v9_55 a9_56 a9_57 v9_58 a9_59 a9_60 a9_61))] s.heap.size = A at hD ⊢
  have hA : ∀ q : Nat, s.heap.size ≤ q → A q := fun q h => by rw [← hAe]; exact Or.inr h
  have hP : va_P (dC, dI) vwCl [(o9, .inr (9, x_O9 v9_0 v9_1 v9_2 v9_3 a9_4 a9_5 a9_6 a9_7 a9_8 a9_9 a9_10 a9_11 a9_12 v9_13 v9_14 v9_15 v9_16 v9_17 v9_18 a9_19 v9_20 v9_21 v9_22 a9_23 a9_24 a9_25 a9_26 a9_27 a9_28 a9_29 a9_30 a9_31 a9_32 a9_33 a9_34 v9_35 v9_36 a9_37 a9_38 a9_39 a9_40 a9_41 v9_42 a9_43 a9_44 a9_45 a9_46 a9_47 v9_48 v9_49 v9_50 v9_51 a9_52 a9_53 v9_54 v9_55 a9_56 a9_57 v9_58 a9_59 a9_60 a9_61))] s.heap := hP
  have hl := lv_entry ([.ref o9]) (n := 1) (Nat.le_of_ble_eq_true rfl)
  rw [lg_entry_eq]
  generalize (lg_sl ([.ref o9]) ++ List.replicate (1 - (lg_sl ([.ref o9])).length) Slot.unset).toArray = ls at hl ⊢
  have hl : lv_has ls 1 [(0, .ref o9)] := hl
  obtain ⟨H, hH⟩ : ∃ z, z = s.heap := ⟨_, rfl⟩
  refine x_here hH ?_
  have hP : va_P (dC, dI) vwCl [(o9, .inr (9, x_O9 v9_0 v9_1 v9_2 v9_3 a9_4 a9_5 a9_6 a9_7 a9_8 a9_9 a9_10 a9_11 a9_12 v9_13 v9_14 v9_15 v9_16 v9_17 v9_18 a9_19 v9_20 v9_21 v9_22 a9_23 a9_24 a9_25 a9_26 a9_27 a9_28 a9_29 a9_30 a9_31 a9_32 a9_33 a9_34 v9_35 v9_36 a9_37 a9_38 a9_39 a9_40 a9_41 v9_42 a9_43 a9_44 a9_45 a9_46 a9_47 v9_48 v9_49 v9_50 v9_51 a9_52 a9_53 v9_54 v9_55 a9_56 a9_57 v9_58 a9_59 a9_60 a9_61))] H := by rw [hH]; exact hP
  have hS : va_S A s.heap H [] := by rw [hH]; exact va_S.rf
  clear hH
  obtain ⟨locs, hlo⟩ : ∃ z : List Loc, z = [] := ⟨_, rfl⟩
  refine x_herl hlo ?_
  have hS : va_S A s.heap H locs := by rw [hlo]; exact hS
  clear hlo
  unfold f_X9_full at hf
  refine lv_aload_n hx hb dX9_full_0 rfl (lv_at hl 0 rfl) ?_
  refine lv_iconst (v := 2) hx hb dX9_full_1 (by decide) ?_
  refine va_put (D := (dC, dI)) (ci := 9) (v := .int 2) (ty := .int) (C := RX9) (T := TX9) (N := 62) hx hb hts i_X9_full_X9 tyX9 tyX9_ok nmX9 hown hK hP hD hS 0 rfl rfl 0 (by decide) k_1 (fun _ h9 => h9) rfl (by decide +kernel) rfl rfl (Nat.le_of_ble_eq_true rfl) dX9_full_2 (fun H locs hP hD hS => ?_)
  have hP : va_P (dC, dI) vwCl [(o9, .inr (9, x_O9 2 v9_1 v9_2 v9_3 a9_4 a9_5 a9_6 a9_7 a9_8 a9_9 a9_10 a9_11 a9_12 v9_13 v9_14 v9_15 v9_16 v9_17 v9_18 a9_19 v9_20 v9_21 v9_22 a9_23 a9_24 a9_25 a9_26 a9_27 a9_28 a9_29 a9_30 a9_31 a9_32 a9_33 a9_34 v9_35 v9_36 a9_37 a9_38 a9_39 a9_40 a9_41 v9_42 a9_43 a9_44 a9_45 a9_46 a9_47 v9_48 v9_49 v9_50 v9_51 a9_52 a9_53 v9_54 v9_55 a9_56 a9_57 v9_58 a9_59 a9_60 a9_61))] H := hP
  have hD : va_D A [(o9, .inr (9, x_O9 2 v9_1 v9_2 v9_3 a9_4 a9_5 a9_6 a9_7 a9_8 a9_9 a9_10 a9_11 a9_12 v9_13 v9_14 v9_15 v9_16 v9_17 v9_18 a9_19 v9_20 v9_21 v9_22 a9_23 a9_24 a9_25 a9_26 a9_27 a9_28 a9_29 a9_30 a9_31 a9_32 a9_33 a9_34 v9_35 v9_36 a9_37 a9_38 a9_39 a9_40 a9_41 v9_42 a9_43 a9_44 a9_45 a9_46 a9_47 v9_48 v9_49 v9_50 v9_51 a9_52 a9_53 v9_54 v9_55 a9_56 a9_57 v9_58 a9_59 a9_60 a9_61))] := hD
  refine lv_iconst (v := 0) hx hb dX9_full_5 (by decide) ?_
  obtain rfl := Option.some.inj hf
  have hP9 := hP.sub (ws' := [(o9, .inr (9, x_O9 2 v9_1 v9_2 v9_3 a9_4 a9_5 a9_6 a9_7 a9_8 a9_9 a9_10 a9_11 a9_12 v9_13 v9_14 v9_15 v9_16 v9_17 v9_18 a9_19 v9_20 v9_21 v9_22 a9_23 a9_24 a9_25 a9_26 a9_27 a9_28 a9_29 a9_30 a9_31 a9_32 a9_33 a9_34 v9_35 v9_36 a9_37 a9_38 a9_39 a9_40 a9_41 v9_42 a9_43 a9_44 a9_45 a9_46 a9_47 v9_48 v9_49 v9_50 v9_51 a9_52 a9_53 v9_54 v9_55 a9_56 a9_57 v9_58 a9_59 a9_60 a9_61))]) [0] rfl
  have hD9 := hD.sub (ws' := [(o9, .inr (9, x_O9 2 v9_1 v9_2 v9_3 a9_4 a9_5 a9_6 a9_7 a9_8 a9_9 a9_10 a9_11 a9_12 v9_13 v9_14 v9_15 v9_16 v9_17 v9_18 a9_19 v9_20 v9_21 v9_22 a9_23 a9_24 a9_25 a9_26 a9_27 a9_28 a9_29 a9_30 a9_31 a9_32 a9_33 a9_34 v9_35 v9_36 a9_37 a9_38 a9_39 a9_40 a9_41 v9_42 a9_43 a9_44 a9_45 a9_46 a9_47 v9_48 v9_49 v9_50 v9_51 a9_52 a9_53 v9_54 v9_55 a9_56 a9_57 v9_58 a9_59 a9_60 a9_61))]) [0] (by decide) rfl
  exact W.iret hx hb hr (fun t ht hW => ⟨⟨_, (), rfl, rfl, by rw [ht]; exact hP9, va_K.moved hW.alike hK, hD9⟩, hS.F ht⟩) hS.2.2 dX9_full_6

def f_X9_thrown (v9_0 : Int32) : Option (Int32) := some v9_0
theorem i_X9_thrown_X9 : ∀ w ∈ wsX90, w ∈ wsX9_thrown := fun _ h => List.mem_cons_of_mem _ (List.mem_append_right _ h)
set_option maxHeartbeats 4000000 in
set_option maxRecDepth 100000 in
theorem c_X9_thrown (l : Launch) (dC : Nat → ClassId) (dI : Nat → Nat → Nat) (cyI cyZ cyJ : ClassId) (sz : Nat) (o9 : Nat) (v9_0 : Int32) (v9_1 : Int32) (v9_2 : Int32) (v9_3 : Int32) (a9_4 : Nat) (a9_5 : Nat) (a9_6 : Nat) (a9_7 : Nat) (a9_8 : Nat) (a9_9 : Nat) (a9_10 : Nat) (a9_11 : Nat) (a9_12 : Nat) (v9_13 : Int32) (v9_14 : Int32) (v9_15 : Int32) (v9_16 : Int32) (v9_17 : Int32) (v9_18 : Int32) (a9_19 : Nat) (v9_20 : Int32) (v9_21 : Int32) (v9_22 : Int32) (a9_23 : Nat) (a9_24 : Nat) (a9_25 : Nat) (a9_26 : Nat) (a9_27 : Nat) (a9_28 : Nat) (a9_29 : Nat) (a9_30 : Nat) (a9_31 : Nat) (a9_32 : Nat) (a9_33 : Nat) (a9_34 : Nat) (v9_35 : Int32) (v9_36 : Int32) (a9_37 : Nat) (a9_38 : Nat) (a9_39 : Nat) (a9_40 : Nat) (a9_41 : Nat) (v9_42 : Int32) (a9_43 : Nat) (a9_44 : Nat) (a9_45 : Nat) (a9_46 : Nat) (a9_47 : Nat) (v9_48 : Int32) (v9_49 : Int32) (v9_50 : Int32) (v9_51 : Int32) (a9_52 : Nat) (a9_53 : Nat) (v9_54 : Int32) (v9_55 : Int32) (a9_56 : Nat) (a9_57 : Nat) (v9_58 : Int32) (a9_59 : Nat) (a9_60 : Nat) (a9_61 : Nat) (R : Int32) (hf : f_X9_thrown v9_0 = some R) : Met l yX9_thrown wsX9_thrown ({ frames := 0, cells := 0, slots := 0, locals := 0 }) (va_Pc [.ref o9] (x_Pre (dC, dI) (x_T cyI cyZ cyJ) [(o9, .inr (9, x_O9 v9_0 v9_1 v9_2 v9_3 a9_4 a9_5 a9_6 a9_7 a9_8 a9_9 a9_10 a9_11 a9_12 v9_13 v9_14 v9_15 v9_16 v9_17 v9_18 a9_19 v9_20 v9_21 v9_22 a9_23 a9_24 a9_25 a9_26 a9_27 a9_28 a9_29 a9_30 a9_31 a9_32 a9_33 a9_34 v9_35 v9_36 a9_37 a9_38 a9_39 a9_40 a9_41 v9_42 a9_43 a9_44 a9_45 a9_46 a9_47 v9_48 v9_49 v9_50 v9_51 a9_52 a9_53 v9_54 v9_55 a9_56 a9_57 v9_58 a9_59 a9_60 a9_61))] sz)) (va_Qi (fun (r : Int32) (_ : Unit) => r = R) (fun _ _ => True) (x_new sz)) 0 0 (x_new sz) := by
  refine Met.ofW (cc := cX9_thrown) (maxL := 1) (ret := (some .int)) (by decide) rfl ?_
  intro p e s m args below meth c s₁ B hml hv
  obtain ⟨rfl, hsz, hP, hK, hN⟩ := hv
  have hx := B.exec
  have hb := B.bytes
  have hr := B.returns
  have hts := atoms_spec (ws := wsX9_thrown) B.pre
  have hown : s.vm.findClass RX9 = some m.cls := findClass_of_methodNamed B.named
  have k_1 := hts (.fieldLink RX9 1 "FlowJudgeModel" "thrown" "I") (by decide +kernel)
  subst hsz
  have hA : ∀ q : Nat, s.heap.size ≤ q → x_new s.heap.size q := fun _ h => h
  have hS : va_S (x_new s.heap.size) s.heap s.heap [] := va_S.rf
  have hP : va_P (dC, dI) vwCl [(o9, .inr (9, x_O9 v9_0 v9_1 v9_2 v9_3 a9_4 a9_5 a9_6 a9_7 a9_8 a9_9 a9_10 a9_11 a9_12 v9_13 v9_14 v9_15 v9_16 v9_17 v9_18 a9_19 v9_20 v9_21 v9_22 a9_23 a9_24 a9_25 a9_26 a9_27 a9_28 a9_29 a9_30 a9_31 a9_32 a9_33 a9_34 v9_35 v9_36 a9_37 a9_38 a9_39 a9_40 a9_41 v9_42 a9_43 a9_44 a9_45 a9_46 a9_47 v9_48 v9_49 v9_50 v9_51 a9_52 a9_53 v9_54 v9_55 a9_56 a9_57 v9_58 a9_59 a9_60 a9_61))] s.heap := hP
  have hl := lv_entry ([.ref o9]) (n := 1) (Nat.le_of_ble_eq_true rfl)
  rw [lg_entry_eq]
  generalize (lg_sl ([.ref o9]) ++ List.replicate (1 - (lg_sl ([.ref o9])).length) Slot.unset).toArray = ls at hl ⊢
  have hl : lv_has ls 1 [(0, .ref o9)] := hl
  obtain ⟨H, hH⟩ : ∃ z, z = s.heap := ⟨_, rfl⟩
  refine x_here hH ?_
  have hP : va_P (dC, dI) vwCl [(o9, .inr (9, x_O9 v9_0 v9_1 v9_2 v9_3 a9_4 a9_5 a9_6 a9_7 a9_8 a9_9 a9_10 a9_11 a9_12 v9_13 v9_14 v9_15 v9_16 v9_17 v9_18 a9_19 v9_20 v9_21 v9_22 a9_23 a9_24 a9_25 a9_26 a9_27 a9_28 a9_29 a9_30 a9_31 a9_32 a9_33 a9_34 v9_35 v9_36 a9_37 a9_38 a9_39 a9_40 a9_41 v9_42 a9_43 a9_44 a9_45 a9_46 a9_47 v9_48 v9_49 v9_50 v9_51 a9_52 a9_53 v9_54 v9_55 a9_56 a9_57 v9_58 a9_59 a9_60 a9_61))] H := by rw [hH]; exact hP
  have hS : va_S (x_new s.heap.size) s.heap H [] := by rw [hH]; exact va_S.rf
  clear hH
  obtain ⟨locs, hlo⟩ : ∃ z : List Loc, z = [] := ⟨_, rfl⟩
  refine x_herl hlo ?_
  have hS : va_S (x_new s.heap.size) s.heap H locs := by rw [hlo]; exact hS
  clear hlo
  unfold f_X9_thrown at hf
  refine lv_aload_n hx hb dX9_thrown_0 rfl (lv_at hl 0 rfl) ?_
  refine va_get (D := (dC, dI)) (ci := 9) (v := .int v9_0) (C := RX9) (T := TX9) (N := 62) hx hb hts i_X9_thrown_X9 hown hK hP 0 rfl rfl 0 (by decide) k_1 (fun _ h9 => h9) rfl dX9_thrown_1 ?_
  obtain rfl := Option.some.inj hf
  exact W.iret hx hb hr (fun t ht hW => ⟨⟨_, (), rfl, rfl, trivial⟩, hS.F ht⟩) hS.2.2 dX9_thrown_4

