def f_X0_isOfLocal (p0 : Int32) : Option (Int32) := if p0 < (21 : Int32) then if p0 < (54 : Int32) then if p0 = (132 : Int32) then some 1 else if p0 = (169 : Int32) then some 1 else some 0 else if p0 ≤ (58 : Int32) then some 1 else if p0 = (132 : Int32) then some 1 else if p0 = (169 : Int32) then some 1 else some 0 else if p0 ≤ (25 : Int32) then some 1 else if p0 < (54 : Int32) then if p0 = (132 : Int32) then some 1 else if p0 = (169 : Int32) then some 1 else some 0 else if p0 ≤ (58 : Int32) then some 1 else if p0 = (132 : Int32) then some 1 else if p0 = (169 : Int32) then some 1 else some 0
set_option maxHeartbeats 4000000 in
set_option maxRecDepth 100000 in
theorem c_X0_isOfLocal (l : Launch) (dC : Nat → ClassId) (dI : Nat → Nat → Nat) (cyI cyZ cyJ : ClassId) (sz : Nat) (p0 : Int32) (R : Int32) (hf : f_X0_isOfLocal p0 = some R) : Met l yX0_isOfLocal wsX0_isOfLocal ({ frames := 0, cells := 0, slots := 0, locals := 0 }) (va_Pc [.int p0] (x_Pre (dC, dI) (x_T cyI cyZ cyJ) [] sz)) (va_Qi (fun (r : Int32) (_ : Unit) => r = R ∧ x_nb r) (fun _ _ => True) (x_new sz)) 0 0 (x_new sz) := by
  refine Met.ofW (cc := cX0_isOfLocal) (maxL := 1) (ret := (some .boolean)) (by decide) rfl ?_
  intro p e s m args below meth c s₁ B hml hv
  obtain ⟨rfl, hsz, hP, hK, hN⟩ := hv
  have hx := B.exec
  have hb := B.bytes
  have hr := B.returns
  have hts := atoms_spec (ws := wsX0_isOfLocal) B.pre
  have hown : s.vm.findClass RX0 = some m.cls := findClass_of_methodNamed B.named
  subst hsz
  have hA : ∀ q : Nat, s.heap.size ≤ q → x_new s.heap.size q := fun _ h => h
  have hS : va_S (x_new s.heap.size) s.heap s.heap [] := va_S.rf
  have hP : va_P (dC, dI) vwCl [] s.heap := hP
  have hl := lv_entry ([.int p0]) (n := 1) (Nat.le_of_ble_eq_true rfl)
  rw [lg_entry_eq]
  generalize (lg_sl ([.int p0]) ++ List.replicate (1 - (lg_sl ([.int p0])).length) Slot.unset).toArray = ls at hl ⊢
  have hl : lv_has ls 1 [(0, .int p0)] := hl
  obtain ⟨H, hH⟩ : ∃ z, z = s.heap := ⟨_, rfl⟩
  refine x_here hH ?_
  have hP : va_P (dC, dI) vwCl [] H := by rw [hH]; exact hP
  have hS : va_S (x_new s.heap.size) s.heap H [] := by rw [hH]; exact va_S.rf
  clear hH
  obtain ⟨locs, hlo⟩ : ∃ z : List Loc, z = [] := ⟨_, rfl⟩
  refine x_herl hlo ?_
  have hS : va_S (x_new s.heap.size) s.heap H locs := by rw [hlo]; exact hS
  clear hlo
  unfold f_X0_isOfLocal at hf
  refine lv_iload_n hx hb dX0_isOfLocal_0 rfl (lv_at hl 0 rfl) ?_
  refine lv_bipush (v := 21) hx hb dX0_isOfLocal_1 (by decide) ?_
  refine lv_icmp_lt (tgt := 12) hx hb dX0_isOfLocal_3 (by decide) (fun c_1 => ?_) (fun c_1 => ?_)
  · replace hf := x_ip c_1 hf
    refine lv_iload_n hx hb dX0_isOfLocal_12 rfl (lv_at hl 0 rfl) ?_
    refine lv_bipush (v := 54) hx hb dX0_isOfLocal_13 (by decide) ?_
    refine lv_icmp_lt (tgt := 24) hx hb dX0_isOfLocal_15 (by decide) (fun c_2 => ?_) (fun c_2 => ?_)
    · replace hf := x_ip c_2 hf
      refine lv_iload_n hx hb dX0_isOfLocal_24 rfl (lv_at hl 0 rfl) ?_
      refine lv_sipush (v := 132) hx hb dX0_isOfLocal_25 (by decide) ?_
      refine lv_icmp_eq (tgt := 38) hx hb dX0_isOfLocal_28 (by decide) (fun c_3 => ?_) (fun c_3 => ?_)
      · replace hf := x_ip c_3 hf
        refine lv_iconst (v := 1) hx hb dX0_isOfLocal_38 (by decide) ?_
        refine lv_goto (tgt := 43) hx hb dX0_isOfLocal_39 (by decide) ?_
        obtain rfl := Option.some.inj hf
        exact W.zret (ty := .boolean) hx hb hr rfl (fun t ht hW => ⟨⟨_, (), rfl, ⟨rfl, rfl⟩, trivial⟩, hS.F ht⟩) hS.2.2 dX0_isOfLocal_43
      · replace hf := x_in c_3 hf
        refine lv_iload_n hx hb dX0_isOfLocal_31 rfl (lv_at hl 0 rfl) ?_
        refine lv_sipush (v := 169) hx hb dX0_isOfLocal_32 (by decide) ?_
        refine lv_icmp_ne (tgt := 42) hx hb dX0_isOfLocal_35 (by decide) (fun c_4 => ?_) (fun c_4 => ?_)
        · replace hf := x_in c_4 hf
          refine lv_iconst (v := 0) hx hb dX0_isOfLocal_42 (by decide) ?_
          obtain rfl := Option.some.inj hf
          exact W.zret (ty := .boolean) hx hb hr rfl (fun t ht hW => ⟨⟨_, (), rfl, ⟨rfl, rfl⟩, trivial⟩, hS.F ht⟩) hS.2.2 dX0_isOfLocal_43
        · replace hf := x_ip c_4 hf
          refine lv_iconst (v := 1) hx hb dX0_isOfLocal_38 (by decide) ?_
          refine lv_goto (tgt := 43) hx hb dX0_isOfLocal_39 (by decide) ?_
          obtain rfl := Option.some.inj hf
          exact W.zret (ty := .boolean) hx hb hr rfl (fun t ht hW => ⟨⟨_, (), rfl, ⟨rfl, rfl⟩, trivial⟩, hS.F ht⟩) hS.2.2 dX0_isOfLocal_43
    · replace hf := x_in c_2 hf
      refine lv_iload_n hx hb dX0_isOfLocal_18 rfl (lv_at hl 0 rfl) ?_
      refine lv_bipush (v := 58) hx hb dX0_isOfLocal_19 (by decide) ?_
      refine lv_icmp_le (tgt := 38) hx hb dX0_isOfLocal_21 (by decide) (fun c_5 => ?_) (fun c_5 => ?_)
      · replace hf := x_ip c_5 hf
        refine lv_iconst (v := 1) hx hb dX0_isOfLocal_38 (by decide) ?_
        refine lv_goto (tgt := 43) hx hb dX0_isOfLocal_39 (by decide) ?_
        obtain rfl := Option.some.inj hf
        exact W.zret (ty := .boolean) hx hb hr rfl (fun t ht hW => ⟨⟨_, (), rfl, ⟨rfl, rfl⟩, trivial⟩, hS.F ht⟩) hS.2.2 dX0_isOfLocal_43
      · replace hf := x_in c_5 hf
        refine lv_iload_n hx hb dX0_isOfLocal_24 rfl (lv_at hl 0 rfl) ?_
        refine lv_sipush (v := 132) hx hb dX0_isOfLocal_25 (by decide) ?_
        refine lv_icmp_eq (tgt := 38) hx hb dX0_isOfLocal_28 (by decide) (fun c_6 => ?_) (fun c_6 => ?_)
        · replace hf := x_ip c_6 hf
          refine lv_iconst (v := 1) hx hb dX0_isOfLocal_38 (by decide) ?_
          refine lv_goto (tgt := 43) hx hb dX0_isOfLocal_39 (by decide) ?_
          obtain rfl := Option.some.inj hf
          exact W.zret (ty := .boolean) hx hb hr rfl (fun t ht hW => ⟨⟨_, (), rfl, ⟨rfl, rfl⟩, trivial⟩, hS.F ht⟩) hS.2.2 dX0_isOfLocal_43
        · replace hf := x_in c_6 hf
          refine lv_iload_n hx hb dX0_isOfLocal_31 rfl (lv_at hl 0 rfl) ?_
          refine lv_sipush (v := 169) hx hb dX0_isOfLocal_32 (by decide) ?_
          refine lv_icmp_ne (tgt := 42) hx hb dX0_isOfLocal_35 (by decide) (fun c_7 => ?_) (fun c_7 => ?_)
          · replace hf := x_in c_7 hf
            refine lv_iconst (v := 0) hx hb dX0_isOfLocal_42 (by decide) ?_
            obtain rfl := Option.some.inj hf
            exact W.zret (ty := .boolean) hx hb hr rfl (fun t ht hW => ⟨⟨_, (), rfl, ⟨rfl, rfl⟩, trivial⟩, hS.F ht⟩) hS.2.2 dX0_isOfLocal_43
          · replace hf := x_ip c_7 hf
            refine lv_iconst (v := 1) hx hb dX0_isOfLocal_38 (by decide) ?_
            refine lv_goto (tgt := 43) hx hb dX0_isOfLocal_39 (by decide) ?_
            obtain rfl := Option.some.inj hf
            exact W.zret (ty := .boolean) hx hb hr rfl (fun t ht hW => ⟨⟨_, (), rfl, ⟨rfl, rfl⟩, trivial⟩, hS.F ht⟩) hS.2.2 dX0_isOfLocal_43
  · replace hf := x_in c_1 hf
    refine lv_iload_n hx hb dX0_isOfLocal_6 rfl (lv_at hl 0 rfl) ?_
    refine lv_bipush (v := 25) hx hb dX0_isOfLocal_7 (by decide) ?_
    refine lv_icmp_le (tgt := 38) hx hb dX0_isOfLocal_9 (by decide) (fun c_8 => ?_) (fun c_8 => ?_)
    · replace hf := x_ip c_8 hf
      refine lv_iconst (v := 1) hx hb dX0_isOfLocal_38 (by decide) ?_
      refine lv_goto (tgt := 43) hx hb dX0_isOfLocal_39 (by decide) ?_
      obtain rfl := Option.some.inj hf
      exact W.zret (ty := .boolean) hx hb hr rfl (fun t ht hW => ⟨⟨_, (), rfl, ⟨rfl, rfl⟩, trivial⟩, hS.F ht⟩) hS.2.2 dX0_isOfLocal_43
    · replace hf := x_in c_8 hf
      refine lv_iload_n hx hb dX0_isOfLocal_12 rfl (lv_at hl 0 rfl) ?_
      refine lv_bipush (v := 54) hx hb dX0_isOfLocal_13 (by decide) ?_
      refine lv_icmp_lt (tgt := 24) hx hb dX0_isOfLocal_15 (by decide) (fun c_9 => ?_) (fun c_9 => ?_)
      · replace hf := x_ip c_9 hf
        refine lv_iload_n hx hb dX0_isOfLocal_24 rfl (lv_at hl 0 rfl) ?_
        refine lv_sipush (v := 132) hx hb dX0_isOfLocal_25 (by decide) ?_
        refine lv_icmp_eq (tgt := 38) hx hb dX0_isOfLocal_28 (by decide) (fun c_10 => ?_) (fun c_10 => ?_)
        · replace hf := x_ip c_10 hf
          refine lv_iconst (v := 1) hx hb dX0_isOfLocal_38 (by decide) ?_
          refine lv_goto (tgt := 43) hx hb dX0_isOfLocal_39 (by decide) ?_
          obtain rfl := Option.some.inj hf
          exact W.zret (ty := .boolean) hx hb hr rfl (fun t ht hW => ⟨⟨_, (), rfl, ⟨rfl, rfl⟩, trivial⟩, hS.F ht⟩) hS.2.2 dX0_isOfLocal_43
        · replace hf := x_in c_10 hf
          refine lv_iload_n hx hb dX0_isOfLocal_31 rfl (lv_at hl 0 rfl) ?_
          refine lv_sipush (v := 169) hx hb dX0_isOfLocal_32 (by decide) ?_
          refine lv_icmp_ne (tgt := 42) hx hb dX0_isOfLocal_35 (by decide) (fun c_11 => ?_) (fun c_11 => ?_)
          · replace hf := x_in c_11 hf
            refine lv_iconst (v := 0) hx hb dX0_isOfLocal_42 (by decide) ?_
            obtain rfl := Option.some.inj hf
            exact W.zret (ty := .boolean) hx hb hr rfl (fun t ht hW => ⟨⟨_, (), rfl, ⟨rfl, rfl⟩, trivial⟩, hS.F ht⟩) hS.2.2 dX0_isOfLocal_43
          · replace hf := x_ip c_11 hf
            refine lv_iconst (v := 1) hx hb dX0_isOfLocal_38 (by decide) ?_
            refine lv_goto (tgt := 43) hx hb dX0_isOfLocal_39 (by decide) ?_
            obtain rfl := Option.some.inj hf
            exact W.zret (ty := .boolean) hx hb hr rfl (fun t ht hW => ⟨⟨_, (), rfl, ⟨rfl, rfl⟩, trivial⟩, hS.F ht⟩) hS.2.2 dX0_isOfLocal_43
      · replace hf := x_in c_9 hf
        refine lv_iload_n hx hb dX0_isOfLocal_18 rfl (lv_at hl 0 rfl) ?_
        refine lv_bipush (v := 58) hx hb dX0_isOfLocal_19 (by decide) ?_
        refine lv_icmp_le (tgt := 38) hx hb dX0_isOfLocal_21 (by decide) (fun c_12 => ?_) (fun c_12 => ?_)
        · replace hf := x_ip c_12 hf
          refine lv_iconst (v := 1) hx hb dX0_isOfLocal_38 (by decide) ?_
          refine lv_goto (tgt := 43) hx hb dX0_isOfLocal_39 (by decide) ?_
          obtain rfl := Option.some.inj hf
          exact W.zret (ty := .boolean) hx hb hr rfl (fun t ht hW => ⟨⟨_, (), rfl, ⟨rfl, rfl⟩, trivial⟩, hS.F ht⟩) hS.2.2 dX0_isOfLocal_43
        · replace hf := x_in c_12 hf
          refine lv_iload_n hx hb dX0_isOfLocal_24 rfl (lv_at hl 0 rfl) ?_
          refine lv_sipush (v := 132) hx hb dX0_isOfLocal_25 (by decide) ?_
          refine lv_icmp_eq (tgt := 38) hx hb dX0_isOfLocal_28 (by decide) (fun c_13 => ?_) (fun c_13 => ?_)
          · replace hf := x_ip c_13 hf
            refine lv_iconst (v := 1) hx hb dX0_isOfLocal_38 (by decide) ?_
            refine lv_goto (tgt := 43) hx hb dX0_isOfLocal_39 (by decide) ?_
            obtain rfl := Option.some.inj hf
            exact W.zret (ty := .boolean) hx hb hr rfl (fun t ht hW => ⟨⟨_, (), rfl, ⟨rfl, rfl⟩, trivial⟩, hS.F ht⟩) hS.2.2 dX0_isOfLocal_43
          · replace hf := x_in c_13 hf
            refine lv_iload_n hx hb dX0_isOfLocal_31 rfl (lv_at hl 0 rfl) ?_
            refine lv_sipush (v := 169) hx hb dX0_isOfLocal_32 (by decide) ?_
            refine lv_icmp_ne (tgt := 42) hx hb dX0_isOfLocal_35 (by decide) (fun c_14 => ?_) (fun c_14 => ?_)
            · replace hf := x_in c_14 hf
              refine lv_iconst (v := 0) hx hb dX0_isOfLocal_42 (by decide) ?_
              obtain rfl := Option.some.inj hf
              exact W.zret (ty := .boolean) hx hb hr rfl (fun t ht hW => ⟨⟨_, (), rfl, ⟨rfl, rfl⟩, trivial⟩, hS.F ht⟩) hS.2.2 dX0_isOfLocal_43
            · replace hf := x_ip c_14 hf
              refine lv_iconst (v := 1) hx hb dX0_isOfLocal_38 (by decide) ?_
              refine lv_goto (tgt := 43) hx hb dX0_isOfLocal_39 (by decide) ?_
              obtain rfl := Option.some.inj hf
              exact W.zret (ty := .boolean) hx hb hr rfl (fun t ht hW => ⟨⟨_, (), rfl, ⟨rfl, rfl⟩, trivial⟩, hS.F ht⟩) hS.2.2 dX0_isOfLocal_43

def f_X0_isOfWideLocal (p0 : Int32) : Option (Int32) := if p0 = (22 : Int32) then some 1 else if p0 = (24 : Int32) then some 1 else if p0 = (55 : Int32) then some 1 else if p0 = (57 : Int32) then some 1 else some 0
set_option maxHeartbeats 4000000 in
set_option maxRecDepth 100000 in
theorem c_X0_isOfWideLocal (l : Launch) (dC : Nat → ClassId) (dI : Nat → Nat → Nat) (cyI cyZ cyJ : ClassId) (sz : Nat) (p0 : Int32) (R : Int32) (hf : f_X0_isOfWideLocal p0 = some R) : Met l yX0_isOfWideLocal wsX0_isOfWideLocal ({ frames := 0, cells := 0, slots := 0, locals := 0 }) (va_Pc [.int p0] (x_Pre (dC, dI) (x_T cyI cyZ cyJ) [] sz)) (va_Qi (fun (r : Int32) (_ : Unit) => r = R ∧ x_nb r) (fun _ _ => True) (x_new sz)) 0 0 (x_new sz) := by
  refine Met.ofW (cc := cX0_isOfWideLocal) (maxL := 1) (ret := (some .boolean)) (by decide) rfl ?_
  intro p e s m args below meth c s₁ B hml hv
  obtain ⟨rfl, hsz, hP, hK, hN⟩ := hv
  have hx := B.exec
  have hb := B.bytes
  have hr := B.returns
  have hts := atoms_spec (ws := wsX0_isOfWideLocal) B.pre
  have hown : s.vm.findClass RX0 = some m.cls := findClass_of_methodNamed B.named
  subst hsz
  have hA : ∀ q : Nat, s.heap.size ≤ q → x_new s.heap.size q := fun _ h => h
  have hS : va_S (x_new s.heap.size) s.heap s.heap [] := va_S.rf
  have hP : va_P (dC, dI) vwCl [] s.heap := hP
  have hl := lv_entry ([.int p0]) (n := 1) (Nat.le_of_ble_eq_true rfl)
  rw [lg_entry_eq]
  generalize (lg_sl ([.int p0]) ++ List.replicate (1 - (lg_sl ([.int p0])).length) Slot.unset).toArray = ls at hl ⊢
  have hl : lv_has ls 1 [(0, .int p0)] := hl
  obtain ⟨H, hH⟩ : ∃ z, z = s.heap := ⟨_, rfl⟩
  refine x_here hH ?_
  have hP : va_P (dC, dI) vwCl [] H := by rw [hH]; exact hP
  have hS : va_S (x_new s.heap.size) s.heap H [] := by rw [hH]; exact va_S.rf
  clear hH
  obtain ⟨locs, hlo⟩ : ∃ z : List Loc, z = [] := ⟨_, rfl⟩
  refine x_herl hlo ?_
  have hS : va_S (x_new s.heap.size) s.heap H locs := by rw [hlo]; exact hS
  clear hlo
  unfold f_X0_isOfWideLocal at hf
  refine lv_iload_n hx hb dX0_isOfWideLocal_0 rfl (lv_at hl 0 rfl) ?_
  refine lv_bipush (v := 22) hx hb dX0_isOfWideLocal_1 (by decide) ?_
  refine lv_icmp_eq (tgt := 24) hx hb dX0_isOfWideLocal_3 (by decide) (fun c_1 => ?_) (fun c_1 => ?_)
  · replace hf := x_ip c_1 hf
    refine lv_iconst (v := 1) hx hb dX0_isOfWideLocal_24 (by decide) ?_
    refine lv_goto (tgt := 29) hx hb dX0_isOfWideLocal_25 (by decide) ?_
    obtain rfl := Option.some.inj hf
    exact W.zret (ty := .boolean) hx hb hr rfl (fun t ht hW => ⟨⟨_, (), rfl, ⟨rfl, rfl⟩, trivial⟩, hS.F ht⟩) hS.2.2 dX0_isOfWideLocal_29
  · replace hf := x_in c_1 hf
    refine lv_iload_n hx hb dX0_isOfWideLocal_6 rfl (lv_at hl 0 rfl) ?_
    refine lv_bipush (v := 24) hx hb dX0_isOfWideLocal_7 (by decide) ?_
    refine lv_icmp_eq (tgt := 24) hx hb dX0_isOfWideLocal_9 (by decide) (fun c_2 => ?_) (fun c_2 => ?_)
    · replace hf := x_ip c_2 hf
      refine lv_iconst (v := 1) hx hb dX0_isOfWideLocal_24 (by decide) ?_
      refine lv_goto (tgt := 29) hx hb dX0_isOfWideLocal_25 (by decide) ?_
      obtain rfl := Option.some.inj hf
      exact W.zret (ty := .boolean) hx hb hr rfl (fun t ht hW => ⟨⟨_, (), rfl, ⟨rfl, rfl⟩, trivial⟩, hS.F ht⟩) hS.2.2 dX0_isOfWideLocal_29
    · replace hf := x_in c_2 hf
      refine lv_iload_n hx hb dX0_isOfWideLocal_12 rfl (lv_at hl 0 rfl) ?_
      refine lv_bipush (v := 55) hx hb dX0_isOfWideLocal_13 (by decide) ?_
      refine lv_icmp_eq (tgt := 24) hx hb dX0_isOfWideLocal_15 (by decide) (fun c_3 => ?_) (fun c_3 => ?_)
      · replace hf := x_ip c_3 hf
        refine lv_iconst (v := 1) hx hb dX0_isOfWideLocal_24 (by decide) ?_
        refine lv_goto (tgt := 29) hx hb dX0_isOfWideLocal_25 (by decide) ?_
        obtain rfl := Option.some.inj hf
        exact W.zret (ty := .boolean) hx hb hr rfl (fun t ht hW => ⟨⟨_, (), rfl, ⟨rfl, rfl⟩, trivial⟩, hS.F ht⟩) hS.2.2 dX0_isOfWideLocal_29
      · replace hf := x_in c_3 hf
        refine lv_iload_n hx hb dX0_isOfWideLocal_18 rfl (lv_at hl 0 rfl) ?_
        refine lv_bipush (v := 57) hx hb dX0_isOfWideLocal_19 (by decide) ?_
        refine lv_icmp_ne (tgt := 28) hx hb dX0_isOfWideLocal_21 (by decide) (fun c_4 => ?_) (fun c_4 => ?_)
        · replace hf := x_in c_4 hf
          refine lv_iconst (v := 0) hx hb dX0_isOfWideLocal_28 (by decide) ?_
          obtain rfl := Option.some.inj hf
          exact W.zret (ty := .boolean) hx hb hr rfl (fun t ht hW => ⟨⟨_, (), rfl, ⟨rfl, rfl⟩, trivial⟩, hS.F ht⟩) hS.2.2 dX0_isOfWideLocal_29
        · replace hf := x_ip c_4 hf
          refine lv_iconst (v := 1) hx hb dX0_isOfWideLocal_24 (by decide) ?_
          refine lv_goto (tgt := 29) hx hb dX0_isOfWideLocal_25 (by decide) ?_
          obtain rfl := Option.some.inj hf
          exact W.zret (ty := .boolean) hx hb hr rfl (fun t ht hW => ⟨⟨_, (), rfl, ⟨rfl, rfl⟩, trivial⟩, hS.F ht⟩) hS.2.2 dX0_isOfWideLocal_29

def f_X0_isJump (p0 : Int32) : Option (Int32) := if p0 < (153 : Int32) then if p0 = (198 : Int32) then some 1 else if p0 = (199 : Int32) then some 1 else some 0 else if p0 ≤ (168 : Int32) then some 1 else if p0 = (198 : Int32) then some 1 else if p0 = (199 : Int32) then some 1 else some 0
set_option maxHeartbeats 4000000 in
set_option maxRecDepth 100000 in
theorem c_X0_isJump (l : Launch) (dC : Nat → ClassId) (dI : Nat → Nat → Nat) (cyI cyZ cyJ : ClassId) (sz : Nat) (p0 : Int32) (R : Int32) (hf : f_X0_isJump p0 = some R) : Met l yX0_isJump wsX0_isJump ({ frames := 0, cells := 0, slots := 0, locals := 0 }) (va_Pc [.int p0] (x_Pre (dC, dI) (x_T cyI cyZ cyJ) [] sz)) (va_Qi (fun (r : Int32) (_ : Unit) => r = R ∧ x_nb r) (fun _ _ => True) (x_new sz)) 0 0 (x_new sz) := by
  refine Met.ofW (cc := cX0_isJump) (maxL := 1) (ret := (some .boolean)) (by decide) rfl ?_
  intro p e s m args below meth c s₁ B hml hv
  obtain ⟨rfl, hsz, hP, hK, hN⟩ := hv
  have hx := B.exec
  have hb := B.bytes
  have hr := B.returns
  have hts := atoms_spec (ws := wsX0_isJump) B.pre
  have hown : s.vm.findClass RX0 = some m.cls := findClass_of_methodNamed B.named
  subst hsz
  have hA : ∀ q : Nat, s.heap.size ≤ q → x_new s.heap.size q := fun _ h => h
  have hS : va_S (x_new s.heap.size) s.heap s.heap [] := va_S.rf
  have hP : va_P (dC, dI) vwCl [] s.heap := hP
  have hl := lv_entry ([.int p0]) (n := 1) (Nat.le_of_ble_eq_true rfl)
  rw [lg_entry_eq]
  generalize (lg_sl ([.int p0]) ++ List.replicate (1 - (lg_sl ([.int p0])).length) Slot.unset).toArray = ls at hl ⊢
  have hl : lv_has ls 1 [(0, .int p0)] := hl
  obtain ⟨H, hH⟩ : ∃ z, z = s.heap := ⟨_, rfl⟩
  refine x_here hH ?_
  have hP : va_P (dC, dI) vwCl [] H := by rw [hH]; exact hP
  have hS : va_S (x_new s.heap.size) s.heap H [] := by rw [hH]; exact va_S.rf
  clear hH
  obtain ⟨locs, hlo⟩ : ∃ z : List Loc, z = [] := ⟨_, rfl⟩
  refine x_herl hlo ?_
  have hS : va_S (x_new s.heap.size) s.heap H locs := by rw [hlo]; exact hS
  clear hlo
  unfold f_X0_isJump at hf
  refine lv_iload_n hx hb dX0_isJump_0 rfl (lv_at hl 0 rfl) ?_
  refine lv_sipush (v := 153) hx hb dX0_isJump_1 (by decide) ?_
  refine lv_icmp_lt (tgt := 14) hx hb dX0_isJump_4 (by decide) (fun c_1 => ?_) (fun c_1 => ?_)
  · replace hf := x_ip c_1 hf
    refine lv_iload_n hx hb dX0_isJump_14 rfl (lv_at hl 0 rfl) ?_
    refine lv_sipush (v := 198) hx hb dX0_isJump_15 (by decide) ?_
    refine lv_icmp_eq (tgt := 28) hx hb dX0_isJump_18 (by decide) (fun c_2 => ?_) (fun c_2 => ?_)
    · replace hf := x_ip c_2 hf
      refine lv_iconst (v := 1) hx hb dX0_isJump_28 (by decide) ?_
      refine lv_goto (tgt := 33) hx hb dX0_isJump_29 (by decide) ?_
      obtain rfl := Option.some.inj hf
      exact W.zret (ty := .boolean) hx hb hr rfl (fun t ht hW => ⟨⟨_, (), rfl, ⟨rfl, rfl⟩, trivial⟩, hS.F ht⟩) hS.2.2 dX0_isJump_33
    · replace hf := x_in c_2 hf
      refine lv_iload_n hx hb dX0_isJump_21 rfl (lv_at hl 0 rfl) ?_
      refine lv_sipush (v := 199) hx hb dX0_isJump_22 (by decide) ?_
      refine lv_icmp_ne (tgt := 32) hx hb dX0_isJump_25 (by decide) (fun c_3 => ?_) (fun c_3 => ?_)
      · replace hf := x_in c_3 hf
        refine lv_iconst (v := 0) hx hb dX0_isJump_32 (by decide) ?_
        obtain rfl := Option.some.inj hf
        exact W.zret (ty := .boolean) hx hb hr rfl (fun t ht hW => ⟨⟨_, (), rfl, ⟨rfl, rfl⟩, trivial⟩, hS.F ht⟩) hS.2.2 dX0_isJump_33
      · replace hf := x_ip c_3 hf
        refine lv_iconst (v := 1) hx hb dX0_isJump_28 (by decide) ?_
        refine lv_goto (tgt := 33) hx hb dX0_isJump_29 (by decide) ?_
        obtain rfl := Option.some.inj hf
        exact W.zret (ty := .boolean) hx hb hr rfl (fun t ht hW => ⟨⟨_, (), rfl, ⟨rfl, rfl⟩, trivial⟩, hS.F ht⟩) hS.2.2 dX0_isJump_33
  · replace hf := x_in c_1 hf
    refine lv_iload_n hx hb dX0_isJump_7 rfl (lv_at hl 0 rfl) ?_
    refine lv_sipush (v := 168) hx hb dX0_isJump_8 (by decide) ?_
    refine lv_icmp_le (tgt := 28) hx hb dX0_isJump_11 (by decide) (fun c_4 => ?_) (fun c_4 => ?_)
    · replace hf := x_ip c_4 hf
      refine lv_iconst (v := 1) hx hb dX0_isJump_28 (by decide) ?_
      refine lv_goto (tgt := 33) hx hb dX0_isJump_29 (by decide) ?_
      obtain rfl := Option.some.inj hf
      exact W.zret (ty := .boolean) hx hb hr rfl (fun t ht hW => ⟨⟨_, (), rfl, ⟨rfl, rfl⟩, trivial⟩, hS.F ht⟩) hS.2.2 dX0_isJump_33
    · replace hf := x_in c_4 hf
      refine lv_iload_n hx hb dX0_isJump_14 rfl (lv_at hl 0 rfl) ?_
      refine lv_sipush (v := 198) hx hb dX0_isJump_15 (by decide) ?_
      refine lv_icmp_eq (tgt := 28) hx hb dX0_isJump_18 (by decide) (fun c_5 => ?_) (fun c_5 => ?_)
      · replace hf := x_ip c_5 hf
        refine lv_iconst (v := 1) hx hb dX0_isJump_28 (by decide) ?_
        refine lv_goto (tgt := 33) hx hb dX0_isJump_29 (by decide) ?_
        obtain rfl := Option.some.inj hf
        exact W.zret (ty := .boolean) hx hb hr rfl (fun t ht hW => ⟨⟨_, (), rfl, ⟨rfl, rfl⟩, trivial⟩, hS.F ht⟩) hS.2.2 dX0_isJump_33
      · replace hf := x_in c_5 hf
        refine lv_iload_n hx hb dX0_isJump_21 rfl (lv_at hl 0 rfl) ?_
        refine lv_sipush (v := 199) hx hb dX0_isJump_22 (by decide) ?_
        refine lv_icmp_ne (tgt := 32) hx hb dX0_isJump_25 (by decide) (fun c_6 => ?_) (fun c_6 => ?_)
        · replace hf := x_in c_6 hf
          refine lv_iconst (v := 0) hx hb dX0_isJump_32 (by decide) ?_
          obtain rfl := Option.some.inj hf
          exact W.zret (ty := .boolean) hx hb hr rfl (fun t ht hW => ⟨⟨_, (), rfl, ⟨rfl, rfl⟩, trivial⟩, hS.F ht⟩) hS.2.2 dX0_isJump_33
        · replace hf := x_ip c_6 hf
          refine lv_iconst (v := 1) hx hb dX0_isJump_28 (by decide) ?_
          refine lv_goto (tgt := 33) hx hb dX0_isJump_29 (by decide) ?_
          obtain rfl := Option.some.inj hf
          exact W.zret (ty := .boolean) hx hb hr rfl (fun t ht hW => ⟨⟨_, (), rfl, ⟨rfl, rfl⟩, trivial⟩, hS.F ht⟩) hS.2.2 dX0_isJump_33

def f_X0_isSwitch (p0 : Int32) : Option (Int32) := if p0 = (170 : Int32) then some 1 else if p0 = (171 : Int32) then some 1 else some 0
set_option maxHeartbeats 4000000 in
set_option maxRecDepth 100000 in
theorem c_X0_isSwitch (l : Launch) (dC : Nat → ClassId) (dI : Nat → Nat → Nat) (cyI cyZ cyJ : ClassId) (sz : Nat) (p0 : Int32) (R : Int32) (hf : f_X0_isSwitch p0 = some R) : Met l yX0_isSwitch wsX0_isSwitch ({ frames := 0, cells := 0, slots := 0, locals := 0 }) (va_Pc [.int p0] (x_Pre (dC, dI) (x_T cyI cyZ cyJ) [] sz)) (va_Qi (fun (r : Int32) (_ : Unit) => r = R ∧ x_nb r) (fun _ _ => True) (x_new sz)) 0 0 (x_new sz) := by
  refine Met.ofW (cc := cX0_isSwitch) (maxL := 1) (ret := (some .boolean)) (by decide) rfl ?_
  intro p e s m args below meth c s₁ B hml hv
  obtain ⟨rfl, hsz, hP, hK, hN⟩ := hv
  have hx := B.exec
  have hb := B.bytes
  have hr := B.returns
  have hts := atoms_spec (ws := wsX0_isSwitch) B.pre
  have hown : s.vm.findClass RX0 = some m.cls := findClass_of_methodNamed B.named
  subst hsz
  have hA : ∀ q : Nat, s.heap.size ≤ q → x_new s.heap.size q := fun _ h => h
  have hS : va_S (x_new s.heap.size) s.heap s.heap [] := va_S.rf
  have hP : va_P (dC, dI) vwCl [] s.heap := hP
  have hl := lv_entry ([.int p0]) (n := 1) (Nat.le_of_ble_eq_true rfl)
  rw [lg_entry_eq]
  generalize (lg_sl ([.int p0]) ++ List.replicate (1 - (lg_sl ([.int p0])).length) Slot.unset).toArray = ls at hl ⊢
  have hl : lv_has ls 1 [(0, .int p0)] := hl
  obtain ⟨H, hH⟩ : ∃ z, z = s.heap := ⟨_, rfl⟩
  refine x_here hH ?_
  have hP : va_P (dC, dI) vwCl [] H := by rw [hH]; exact hP
  have hS : va_S (x_new s.heap.size) s.heap H [] := by rw [hH]; exact va_S.rf
  clear hH
  obtain ⟨locs, hlo⟩ : ∃ z : List Loc, z = [] := ⟨_, rfl⟩
  refine x_herl hlo ?_
  have hS : va_S (x_new s.heap.size) s.heap H locs := by rw [hlo]; exact hS
  clear hlo
  unfold f_X0_isSwitch at hf
  refine lv_iload_n hx hb dX0_isSwitch_0 rfl (lv_at hl 0 rfl) ?_
  refine lv_sipush (v := 170) hx hb dX0_isSwitch_1 (by decide) ?_
  refine lv_icmp_eq (tgt := 14) hx hb dX0_isSwitch_4 (by decide) (fun c_1 => ?_) (fun c_1 => ?_)
  · replace hf := x_ip c_1 hf
    refine lv_iconst (v := 1) hx hb dX0_isSwitch_14 (by decide) ?_
    refine lv_goto (tgt := 19) hx hb dX0_isSwitch_15 (by decide) ?_
    obtain rfl := Option.some.inj hf
    exact W.zret (ty := .boolean) hx hb hr rfl (fun t ht hW => ⟨⟨_, (), rfl, ⟨rfl, rfl⟩, trivial⟩, hS.F ht⟩) hS.2.2 dX0_isSwitch_19
  · replace hf := x_in c_1 hf
    refine lv_iload_n hx hb dX0_isSwitch_7 rfl (lv_at hl 0 rfl) ?_
    refine lv_sipush (v := 171) hx hb dX0_isSwitch_8 (by decide) ?_
    refine lv_icmp_ne (tgt := 18) hx hb dX0_isSwitch_11 (by decide) (fun c_2 => ?_) (fun c_2 => ?_)
    · replace hf := x_in c_2 hf
      refine lv_iconst (v := 0) hx hb dX0_isSwitch_18 (by decide) ?_
      obtain rfl := Option.some.inj hf
      exact W.zret (ty := .boolean) hx hb hr rfl (fun t ht hW => ⟨⟨_, (), rfl, ⟨rfl, rfl⟩, trivial⟩, hS.F ht⟩) hS.2.2 dX0_isSwitch_19
    · replace hf := x_ip c_2 hf
      refine lv_iconst (v := 1) hx hb dX0_isSwitch_14 (by decide) ?_
      refine lv_goto (tgt := 19) hx hb dX0_isSwitch_15 (by decide) ?_
      obtain rfl := Option.some.inj hf
      exact W.zret (ty := .boolean) hx hb hr rfl (fun t ht hW => ⟨⟨_, (), rfl, ⟨rfl, rfl⟩, trivial⟩, hS.F ht⟩) hS.2.2 dX0_isSwitch_19

def f_X0_begin (v0_0 : Int32) (v0_1 : Int32) (v0_2 : Int32) (v0_3 : Int32) (v0_4 : Int32) (v0_6 : Int32) (v0_10 : Int32) (v0_15 : Int32) (p1 : Int32) (p2 : Int32) (p3 : Int32) (p4 : Int32) (p5 : Int32) : Option (Int32 × Int32 × Int32 × Int32 × Int32 × Int32 × Int32 × Int32) := some (p1, p2, p3, p4, p5, 0, 0, 0)
theorem i_X0_begin_X0 : ∀ w ∈ wsX00, w ∈ wsX0_begin := fun _ h => List.mem_cons_of_mem _ (List.mem_append_right _ h)
set_option maxHeartbeats 4000000 in
set_option maxRecDepth 100000 in
theorem c_X0_begin (l : Launch) (dC : Nat → ClassId) (dI : Nat → Nat → Nat) (cyI cyZ cyJ : ClassId) (sz : Nat) (o0 : Nat) (v0_0 : Int32) (v0_1 : Int32) (v0_2 : Int32) (v0_3 : Int32) (v0_4 : Int32) (a0_5 : Nat) (v0_6 : Int32) (a0_7 : Nat) (a0_8 : Nat) (a0_9 : Nat) (v0_10 : Int32) (a0_11 : Nat) (a0_12 : Nat) (a0_13 : Nat) (a0_14 : Nat) (v0_15 : Int32) (a0_16 : Nat) (p1 : Int32) (p2 : Int32) (p3 : Int32) (p4 : Int32) (p5 : Int32) (R : Int32 × Int32 × Int32 × Int32 × Int32 × Int32 × Int32 × Int32) (hf : f_X0_begin v0_0 v0_1 v0_2 v0_3 v0_4 v0_6 v0_10 v0_15 p1 p2 p3 p4 p5 = some R) : Met l yX0_begin wsX0_begin ({ frames := 0, cells := 0, slots := 0, locals := 0 }) (va_Pc [.ref o0, .int p1, .int p2, .int p3, .int p4, .int p5] (x_PreD (dC, dI) (x_T cyI cyZ cyJ) [(o0, .inr (0, [.int v0_0, .int v0_1, .int v0_2, .int v0_3, .int v0_4, .ref a0_5, .int v0_6, .ref a0_7, .ref a0_8, .ref a0_9, .int v0_10, .ref a0_11, .ref a0_12, .ref a0_13, .ref a0_14, .int v0_15, .ref a0_16]))] sz)) (va_Qv (fun _ : Unit => True) (fun (_ : Unit) (t : State) => va_P (dC, dI) vwCl [(o0, .inr (0, [.int (R.1), .int (R.2.1), .int (R.2.2.1), .int (R.2.2.2.1), .int (R.2.2.2.2.1), .ref a0_5, .int (R.2.2.2.2.2.1), .ref a0_7, .ref a0_8, .ref a0_9, .int (R.2.2.2.2.2.2.1), .ref a0_11, .ref a0_12, .ref a0_13, .ref a0_14, .int (R.2.2.2.2.2.2.2), .ref a0_16]))] t.heap ∧ va_K (dC, dI) vwCl (x_T cyI cyZ cyJ) t ∧ va_D (va_A [(o0, .inr (0, [.int v0_0, .int v0_1, .int v0_2, .int v0_3, .int v0_4, .ref a0_5, .int v0_6, .ref a0_7, .ref a0_8, .ref a0_9, .int v0_10, .ref a0_11, .ref a0_12, .ref a0_13, .ref a0_14, .int v0_15, .ref a0_16]))] sz) [(o0, .inr (0, [.int (R.1), .int (R.2.1), .int (R.2.2.1), .int (R.2.2.2.1), .int (R.2.2.2.2.1), .ref a0_5, .int (R.2.2.2.2.2.1), .ref a0_7, .ref a0_8, .ref a0_9, .int (R.2.2.2.2.2.2.1), .ref a0_11, .ref a0_12, .ref a0_13, .ref a0_14, .int (R.2.2.2.2.2.2.2), .ref a0_16]))]) (va_A [(o0, .inr (0, [.int v0_0, .int v0_1, .int v0_2, .int v0_3, .int v0_4, .ref a0_5, .int v0_6, .ref a0_7, .ref a0_8, .ref a0_9, .int v0_10, .ref a0_11, .ref a0_12, .ref a0_13, .ref a0_14, .int v0_15, .ref a0_16]))] sz)) 0 0 (va_A [(o0, .inr (0, [.int v0_0, .int v0_1, .int v0_2, .int v0_3, .int v0_4, .ref a0_5, .int v0_6, .ref a0_7, .ref a0_8, .ref a0_9, .int v0_10, .ref a0_11, .ref a0_12, .ref a0_13, .ref a0_14, .int v0_15, .ref a0_16]))] sz) := by
  refine Met.ofW (cc := cX0_begin) (maxL := 6) (ret := none) (by decide) rfl ?_
  intro p e s m args below meth c s₁ B hml hv
  obtain ⟨rfl, ⟨hsz, hP, hK, hN⟩, hD0⟩ := hv
  have hx := B.exec
  have hb := B.bytes
  have hr := B.returns
  have hts := atoms_spec (ws := wsX0_begin) B.pre
  have hown : s.vm.findClass RX0 = some m.cls := findClass_of_methodNamed B.named
  have k_1 := hts (.fieldLink RX0 44 "FlowJudge$Code" "owner" "I") (by decide +kernel)
  have k_2 := hts (.fieldLink RX0 47 "FlowJudge$Code" "how" "I") (by decide +kernel)
  have k_3 := hts (.fieldLink RX0 9 "FlowJudge$Code" "result" "I") (by decide +kernel)
  have k_4 := hts (.fieldLink RX0 50 "FlowJudge$Code" "locals" "I") (by decide +kernel)
  have k_5 := hts (.fieldLink RX0 53 "FlowJudge$Code" "stack" "I") (by decide +kernel)
  have k_6 := hts (.fieldLink RX0 56 "FlowJudge$Code" "argumentCount" "I") (by decide +kernel)
  have k_7 := hts (.fieldLink RX0 59 "FlowJudge$Code" "count" "I") (by decide +kernel)
  have k_8 := hts (.fieldLink RX0 62 "FlowJudge$Code" "rowCount" "I") (by decide +kernel)
  subst hsz
  have hD := hD0.self (sz := s.heap.size)
  generalize hAe : va_A [(o0, .inr (0, [.int v0_0, .int v0_1, .int v0_2, .int v0_3, .int v0_4, .ref a0_5, .int v0_6, .ref a0_7, .ref a0_8, .ref a0_9, .int v0_10, .ref a0_11, .ref a0_12, .ref a0_13, .ref a0_14, .int v0_15, .ref a0_16]))] s.heap.size = A at hD ⊢
  have hA : ∀ q : Nat, s.heap.size ≤ q → A q := fun q h => by rw [← hAe]; exact Or.inr h
  have hP : va_P (dC, dI) vwCl [(o0, .inr (0, [.int v0_0, .int v0_1, .int v0_2, .int v0_3, .int v0_4, .ref a0_5, .int v0_6, .ref a0_7, .ref a0_8, .ref a0_9, .int v0_10, .ref a0_11, .ref a0_12, .ref a0_13, .ref a0_14, .int v0_15, .ref a0_16]))] s.heap := hP
  have hl := lv_entry ([.ref o0, .int p1, .int p2, .int p3, .int p4, .int p5]) (n := 6) (Nat.le_of_ble_eq_true rfl)
  rw [lg_entry_eq]
  generalize (lg_sl ([.ref o0, .int p1, .int p2, .int p3, .int p4, .int p5]) ++ List.replicate (6 - (lg_sl ([.ref o0, .int p1, .int p2, .int p3, .int p4, .int p5])).length) Slot.unset).toArray = ls at hl ⊢
  have hl : lv_has ls 6 [(0, .ref o0), (1, .int p1), (2, .int p2), (3, .int p3), (4, .int p4), (5, .int p5)] := hl
  obtain ⟨H, hH⟩ : ∃ z, z = s.heap := ⟨_, rfl⟩
  refine x_here hH ?_
  have hP : va_P (dC, dI) vwCl [(o0, .inr (0, [.int v0_0, .int v0_1, .int v0_2, .int v0_3, .int v0_4, .ref a0_5, .int v0_6, .ref a0_7, .ref a0_8, .ref a0_9, .int v0_10, .ref a0_11, .ref a0_12, .ref a0_13, .ref a0_14, .int v0_15, .ref a0_16]))] H := by rw [hH]; exact hP
  have hS : va_S A s.heap H [] := by rw [hH]; exact va_S.rf
  clear hH
  obtain ⟨locs, hlo⟩ : ∃ z : List Loc, z = [] := ⟨_, rfl⟩
  refine x_herl hlo ?_
  have hS : va_S A s.heap H locs := by rw [hlo]; exact hS
  clear hlo
  unfold f_X0_begin at hf
  refine lv_aload_n hx hb dX0_begin_0 rfl (lv_at hl 0 rfl) ?_
  refine lv_iload_n hx hb dX0_begin_1 rfl (lv_at hl 1 rfl) ?_
  refine va_put (D := (dC, dI)) (ci := 0) (v := .int p1) (ty := .int) (C := RX0) (T := TX0) (N := 17) hx hb hts i_X0_begin_X0 tyX0 tyX0_ok nmX0 hown hK hP hD hS 0 rfl rfl 0 (by decide) k_1 (fun _ h9 => h9) rfl (by decide +kernel) rfl rfl (Nat.le_of_ble_eq_true rfl) dX0_begin_2 (fun H locs hP hD hS => ?_)
  have hP : va_P (dC, dI) vwCl [(o0, .inr (0, [.int p1, .int v0_1, .int v0_2, .int v0_3, .int v0_4, .ref a0_5, .int v0_6, .ref a0_7, .ref a0_8, .ref a0_9, .int v0_10, .ref a0_11, .ref a0_12, .ref a0_13, .ref a0_14, .int v0_15, .ref a0_16]))] H := hP
  have hD : va_D A [(o0, .inr (0, [.int p1, .int v0_1, .int v0_2, .int v0_3, .int v0_4, .ref a0_5, .int v0_6, .ref a0_7, .ref a0_8, .ref a0_9, .int v0_10, .ref a0_11, .ref a0_12, .ref a0_13, .ref a0_14, .int v0_15, .ref a0_16]))] := hD
  refine lv_aload_n hx hb dX0_begin_5 rfl (lv_at hl 0 rfl) ?_
  refine lv_iload_n hx hb dX0_begin_6 rfl (lv_at hl 2 rfl) ?_
  refine va_put (D := (dC, dI)) (ci := 0) (v := .int p2) (ty := .int) (C := RX0) (T := TX0) (N := 17) hx hb hts i_X0_begin_X0 tyX0 tyX0_ok nmX0 hown hK hP hD hS 0 rfl rfl 1 (by decide) k_2 (fun _ h9 => h9) rfl (by decide +kernel) rfl rfl (Nat.le_of_ble_eq_true rfl) dX0_begin_7 (fun H locs hP hD hS => ?_)
  have hP : va_P (dC, dI) vwCl [(o0, .inr (0, [.int p1, .int p2, .int v0_2, .int v0_3, .int v0_4, .ref a0_5, .int v0_6, .ref a0_7, .ref a0_8, .ref a0_9, .int v0_10, .ref a0_11, .ref a0_12, .ref a0_13, .ref a0_14, .int v0_15, .ref a0_16]))] H := hP
  have hD : va_D A [(o0, .inr (0, [.int p1, .int p2, .int v0_2, .int v0_3, .int v0_4, .ref a0_5, .int v0_6, .ref a0_7, .ref a0_8, .ref a0_9, .int v0_10, .ref a0_11, .ref a0_12, .ref a0_13, .ref a0_14, .int v0_15, .ref a0_16]))] := hD
  refine lv_aload_n hx hb dX0_begin_10 rfl (lv_at hl 0 rfl) ?_
  refine lv_iload_n hx hb dX0_begin_11 rfl (lv_at hl 3 rfl) ?_
  refine va_put (D := (dC, dI)) (ci := 0) (v := .int p3) (ty := .int) (C := RX0) (T := TX0) (N := 17) hx hb hts i_X0_begin_X0 tyX0 tyX0_ok nmX0 hown hK hP hD hS 0 rfl rfl 2 (by decide) k_3 (fun _ h9 => h9) rfl (by decide +kernel) rfl rfl (Nat.le_of_ble_eq_true rfl) dX0_begin_12 (fun H locs hP hD hS => ?_)
  have hP : va_P (dC, dI) vwCl [(o0, .inr (0, [.int p1, .int p2, .int p3, .int v0_3, .int v0_4, .ref a0_5, .int v0_6, .ref a0_7, .ref a0_8, .ref a0_9, .int v0_10, .ref a0_11, .ref a0_12, .ref a0_13, .ref a0_14, .int v0_15, .ref a0_16]))] H := hP
  have hD : va_D A [(o0, .inr (0, [.int p1, .int p2, .int p3, .int v0_3, .int v0_4, .ref a0_5, .int v0_6, .ref a0_7, .ref a0_8, .ref a0_9, .int v0_10, .ref a0_11, .ref a0_12, .ref a0_13, .ref a0_14, .int v0_15, .ref a0_16]))] := hD
  refine lv_aload_n hx hb dX0_begin_15 rfl (lv_at hl 0 rfl) ?_
  refine lv_iload hx hb dX0_begin_16 (lv_at hl 4 rfl) ?_
  refine va_put (D := (dC, dI)) (ci := 0) (v := .int p4) (ty := .int) (C := RX0) (T := TX0) (N := 17) hx hb hts i_X0_begin_X0 tyX0 tyX0_ok nmX0 hown hK hP hD hS 0 rfl rfl 3 (by decide) k_4 (fun _ h9 => h9) rfl (by decide +kernel) rfl rfl (Nat.le_of_ble_eq_true rfl) dX0_begin_18 (fun H locs hP hD hS => ?_)
  have hP : va_P (dC, dI) vwCl [(o0, .inr (0, [.int p1, .int p2, .int p3, .int p4, .int v0_4, .ref a0_5, .int v0_6, .ref a0_7, .ref a0_8, .ref a0_9, .int v0_10, .ref a0_11, .ref a0_12, .ref a0_13, .ref a0_14, .int v0_15, .ref a0_16]))] H := hP
  have hD : va_D A [(o0, .inr (0, [.int p1, .int p2, .int p3, .int p4, .int v0_4, .ref a0_5, .int v0_6, .ref a0_7, .ref a0_8, .ref a0_9, .int v0_10, .ref a0_11, .ref a0_12, .ref a0_13, .ref a0_14, .int v0_15, .ref a0_16]))] := hD
  refine lv_aload_n hx hb dX0_begin_21 rfl (lv_at hl 0 rfl) ?_
  refine lv_iload hx hb dX0_begin_22 (lv_at hl 5 rfl) ?_
  refine va_put (D := (dC, dI)) (ci := 0) (v := .int p5) (ty := .int) (C := RX0) (T := TX0) (N := 17) hx hb hts i_X0_begin_X0 tyX0 tyX0_ok nmX0 hown hK hP hD hS 0 rfl rfl 4 (by decide) k_5 (fun _ h9 => h9) rfl (by decide +kernel) rfl rfl (Nat.le_of_ble_eq_true rfl) dX0_begin_24 (fun H locs hP hD hS => ?_)
  have hP : va_P (dC, dI) vwCl [(o0, .inr (0, [.int p1, .int p2, .int p3, .int p4, .int p5, .ref a0_5, .int v0_6, .ref a0_7, .ref a0_8, .ref a0_9, .int v0_10, .ref a0_11, .ref a0_12, .ref a0_13, .ref a0_14, .int v0_15, .ref a0_16]))] H := hP
  have hD : va_D A [(o0, .inr (0, [.int p1, .int p2, .int p3, .int p4, .int p5, .ref a0_5, .int v0_6, .ref a0_7, .ref a0_8, .ref a0_9, .int v0_10, .ref a0_11, .ref a0_12, .ref a0_13, .ref a0_14, .int v0_15, .ref a0_16]))] := hD
  refine lv_aload_n hx hb dX0_begin_27 rfl (lv_at hl 0 rfl) ?_
  refine lv_iconst (v := 0) hx hb dX0_begin_28 (by decide) ?_
  refine va_put (D := (dC, dI)) (ci := 0) (v := .int 0) (ty := .int) (C := RX0) (T := TX0) (N := 17) hx hb hts i_X0_begin_X0 tyX0 tyX0_ok nmX0 hown hK hP hD hS 0 rfl rfl 6 (by decide) k_6 (fun _ h9 => h9) rfl (by decide +kernel) rfl rfl (Nat.le_of_ble_eq_true rfl) dX0_begin_29 (fun H locs hP hD hS => ?_)
  have hP : va_P (dC, dI) vwCl [(o0, .inr (0, [.int p1, .int p2, .int p3, .int p4, .int p5, .ref a0_5, .int 0, .ref a0_7, .ref a0_8, .ref a0_9, .int v0_10, .ref a0_11, .ref a0_12, .ref a0_13, .ref a0_14, .int v0_15, .ref a0_16]))] H := hP
  have hD : va_D A [(o0, .inr (0, [.int p1, .int p2, .int p3, .int p4, .int p5, .ref a0_5, .int 0, .ref a0_7, .ref a0_8, .ref a0_9, .int v0_10, .ref a0_11, .ref a0_12, .ref a0_13, .ref a0_14, .int v0_15, .ref a0_16]))] := hD
  refine lv_aload_n hx hb dX0_begin_32 rfl (lv_at hl 0 rfl) ?_
  refine lv_iconst (v := 0) hx hb dX0_begin_33 (by decide) ?_
  refine va_put (D := (dC, dI)) (ci := 0) (v := .int 0) (ty := .int) (C := RX0) (T := TX0) (N := 17) hx hb hts i_X0_begin_X0 tyX0 tyX0_ok nmX0 hown hK hP hD hS 0 rfl rfl 10 (by decide) k_7 (fun _ h9 => h9) rfl (by decide +kernel) rfl rfl (Nat.le_of_ble_eq_true rfl) dX0_begin_34 (fun H locs hP hD hS => ?_)
  have hP : va_P (dC, dI) vwCl [(o0, .inr (0, [.int p1, .int p2, .int p3, .int p4, .int p5, .ref a0_5, .int 0, .ref a0_7, .ref a0_8, .ref a0_9, .int 0, .ref a0_11, .ref a0_12, .ref a0_13, .ref a0_14, .int v0_15, .ref a0_16]))] H := hP
  have hD : va_D A [(o0, .inr (0, [.int p1, .int p2, .int p3, .int p4, .int p5, .ref a0_5, .int 0, .ref a0_7, .ref a0_8, .ref a0_9, .int 0, .ref a0_11, .ref a0_12, .ref a0_13, .ref a0_14, .int v0_15, .ref a0_16]))] := hD
  refine lv_aload_n hx hb dX0_begin_37 rfl (lv_at hl 0 rfl) ?_
  refine lv_iconst (v := 0) hx hb dX0_begin_38 (by decide) ?_
  refine va_put (D := (dC, dI)) (ci := 0) (v := .int 0) (ty := .int) (C := RX0) (T := TX0) (N := 17) hx hb hts i_X0_begin_X0 tyX0 tyX0_ok nmX0 hown hK hP hD hS 0 rfl rfl 15 (by decide) k_8 (fun _ h9 => h9) rfl (by decide +kernel) rfl rfl (Nat.le_of_ble_eq_true rfl) dX0_begin_39 (fun H locs hP hD hS => ?_)
  have hP : va_P (dC, dI) vwCl [(o0, .inr (0, [.int p1, .int p2, .int p3, .int p4, .int p5, .ref a0_5, .int 0, .ref a0_7, .ref a0_8, .ref a0_9, .int 0, .ref a0_11, .ref a0_12, .ref a0_13, .ref a0_14, .int 0, .ref a0_16]))] H := hP
  have hD : va_D A [(o0, .inr (0, [.int p1, .int p2, .int p3, .int p4, .int p5, .ref a0_5, .int 0, .ref a0_7, .ref a0_8, .ref a0_9, .int 0, .ref a0_11, .ref a0_12, .ref a0_13, .ref a0_14, .int 0, .ref a0_16]))] := hD
  obtain rfl := Option.some.inj hf
  have hP9 := hP.sub (ws' := [(o0, .inr (0, [.int p1, .int p2, .int p3, .int p4, .int p5, .ref a0_5, .int 0, .ref a0_7, .ref a0_8, .ref a0_9, .int 0, .ref a0_11, .ref a0_12, .ref a0_13, .ref a0_14, .int 0, .ref a0_16]))]) [0] rfl
  have hD9 := hD.sub (ws' := [(o0, .inr (0, [.int p1, .int p2, .int p3, .int p4, .int p5, .ref a0_5, .int 0, .ref a0_7, .ref a0_8, .ref a0_9, .int 0, .ref a0_11, .ref a0_12, .ref a0_13, .ref a0_14, .int 0, .ref a0_16]))]) [0] (by decide) rfl
  exact W.vret hx hb hr (fun t ht hW => ⟨⟨(), rfl, trivial, by rw [ht]; exact hP9, va_K.moved hW.alike hK, hD9⟩, hS.F ht⟩) hS.2.2 dX0_begin_42

def f_X0_takeMore (v0_6 : Int32) (g0_5 : Nat → Int32) (p1 : Int32) : Option (Int32 × Int32 × (Nat → Int32)) := if x_gd v0_6 20 = true then some (v0_6 + (1 : Int32), v0_6 + (1 : Int32), upd g0_5 (Int32.toNatClampNeg v0_6) p1) else none
theorem i_X0_takeMore_X0 : ∀ w ∈ wsX00, w ∈ wsX0_takeMore := fun _ h => List.mem_cons_of_mem _ (List.mem_append_right _ h)
set_option maxHeartbeats 4000000 in
set_option maxRecDepth 100000 in
theorem c_X0_takeMore (l : Launch) (dC : Nat → ClassId) (dI : Nat → Nat → Nat) (cyI cyZ cyJ : ClassId) (sz : Nat) (o0 : Nat) (v0_0 : Int32) (v0_1 : Int32) (v0_2 : Int32) (v0_3 : Int32) (v0_4 : Int32) (a0_5 : Nat) (v0_6 : Int32) (a0_7 : Nat) (a0_8 : Nat) (a0_9 : Nat) (v0_10 : Int32) (a0_11 : Nat) (a0_12 : Nat) (a0_13 : Nat) (a0_14 : Nat) (v0_15 : Int32) (a0_16 : Nat) (g0_5 : Nat → Int32) (p1 : Int32) (R : Int32 × Int32 × (Nat → Int32)) (hf : f_X0_takeMore v0_6 g0_5 p1 = some R) : Met l yX0_takeMore wsX0_takeMore ({ frames := 0, cells := 0, slots := 0, locals := 0 }) (va_Pc [.ref o0, .int p1] (x_PreD (dC, dI) (x_T cyI cyZ cyJ) [(o0, .inr (0, [.int v0_0, .int v0_1, .int v0_2, .int v0_3, .int v0_4, .ref a0_5, .int v0_6, .ref a0_7, .ref a0_8, .ref a0_9, .int v0_10, .ref a0_11, .ref a0_12, .ref a0_13, .ref a0_14, .int v0_15, .ref a0_16])), (a0_5, .inl (cyI, 20, .inl g0_5))] sz)) (va_Qi (fun (r : Int32) (_ : Unit) => r = R.1) (fun (_ : Unit) (t : State) => va_P (dC, dI) vwCl [(o0, .inr (0, [.int v0_0, .int v0_1, .int v0_2, .int v0_3, .int v0_4, .ref a0_5, .int (R.2.1), .ref a0_7, .ref a0_8, .ref a0_9, .int v0_10, .ref a0_11, .ref a0_12, .ref a0_13, .ref a0_14, .int v0_15, .ref a0_16])), (a0_5, .inl (cyI, 20, .inl R.2.2))] t.heap ∧ va_K (dC, dI) vwCl (x_T cyI cyZ cyJ) t ∧ va_D (va_A [(o0, .inr (0, [.int v0_0, .int v0_1, .int v0_2, .int v0_3, .int v0_4, .ref a0_5, .int v0_6, .ref a0_7, .ref a0_8, .ref a0_9, .int v0_10, .ref a0_11, .ref a0_12, .ref a0_13, .ref a0_14, .int v0_15, .ref a0_16])), (a0_5, .inl (cyI, 20, .inl g0_5))] sz) [(o0, .inr (0, [.int v0_0, .int v0_1, .int v0_2, .int v0_3, .int v0_4, .ref a0_5, .int (R.2.1), .ref a0_7, .ref a0_8, .ref a0_9, .int v0_10, .ref a0_11, .ref a0_12, .ref a0_13, .ref a0_14, .int v0_15, .ref a0_16])), (a0_5, .inl (cyI, 20, .inl R.2.2))]) (va_A [(o0, .inr (0, [.int v0_0, .int v0_1, .int v0_2, .int v0_3, .int v0_4, .ref a0_5, .int v0_6, .ref a0_7, .ref a0_8, .ref a0_9, .int v0_10, .ref a0_11, .ref a0_12, .ref a0_13, .ref a0_14, .int v0_15, .ref a0_16])), (a0_5, .inl (cyI, 20, .inl g0_5))] sz)) 0 0 (va_A [(o0, .inr (0, [.int v0_0, .int v0_1, .int v0_2, .int v0_3, .int v0_4, .ref a0_5, .int v0_6, .ref a0_7, .ref a0_8, .ref a0_9, .int v0_10, .ref a0_11, .ref a0_12, .ref a0_13, .ref a0_14, .int v0_15, .ref a0_16])), (a0_5, .inl (cyI, 20, .inl g0_5))] sz) := by
  refine Met.ofW (cc := cX0_takeMore) (maxL := 2) (ret := (some .int)) (by decide) rfl ?_
  intro p e s m args below meth c s₁ B hml hv
  obtain ⟨rfl, ⟨hsz, hP, hK, hN⟩, hD0⟩ := hv
  have hx := B.exec
  have hb := B.bytes
  have hr := B.returns
  have hts := atoms_spec (ws := wsX0_takeMore) B.pre
  have hown : s.vm.findClass RX0 = some m.cls := findClass_of_methodNamed B.named
  have k_1 := hts (.fieldLink RX0 15 "FlowJudge$Code" "arguments" "[I") (by decide +kernel)
  have k_2 := hts (.fieldLink RX0 56 "FlowJudge$Code" "argumentCount" "I") (by decide +kernel)
  subst hsz
  have hD := hD0.self (sz := s.heap.size)
  generalize hAe : va_A [(o0, .inr (0, [.int v0_0, .int v0_1, .int v0_2, .int v0_3, .int v0_4, .ref a0_5, .int v0_6, .ref a0_7, .ref a0_8, .ref a0_9, .int v0_10, .ref a0_11, .ref a0_12, .ref a0_13, .ref a0_14, .int v0_15, .ref a0_16])), (a0_5, .inl (cyI, 20, .inl g0_5))] s.heap.size = A at hD ⊢
  have hA : ∀ q : Nat, s.heap.size ≤ q → A q := fun q h => by rw [← hAe]; exact Or.inr h
  have hP : va_P (dC, dI) vwCl [(o0, .inr (0, [.int v0_0, .int v0_1, .int v0_2, .int v0_3, .int v0_4, .ref a0_5, .int v0_6, .ref a0_7, .ref a0_8, .ref a0_9, .int v0_10, .ref a0_11, .ref a0_12, .ref a0_13, .ref a0_14, .int v0_15, .ref a0_16])), (a0_5, .inl (cyI, 20, .inl g0_5))] s.heap := hP
  have hl := lv_entry ([.ref o0, .int p1]) (n := 2) (Nat.le_of_ble_eq_true rfl)
  rw [lg_entry_eq]
  generalize (lg_sl ([.ref o0, .int p1]) ++ List.replicate (2 - (lg_sl ([.ref o0, .int p1])).length) Slot.unset).toArray = ls at hl ⊢
  have hl : lv_has ls 2 [(0, .ref o0), (1, .int p1)] := hl
  obtain ⟨H, hH⟩ : ∃ z, z = s.heap := ⟨_, rfl⟩
  refine x_here hH ?_
  have hP : va_P (dC, dI) vwCl [(o0, .inr (0, [.int v0_0, .int v0_1, .int v0_2, .int v0_3, .int v0_4, .ref a0_5, .int v0_6, .ref a0_7, .ref a0_8, .ref a0_9, .int v0_10, .ref a0_11, .ref a0_12, .ref a0_13, .ref a0_14, .int v0_15, .ref a0_16])), (a0_5, .inl (cyI, 20, .inl g0_5))] H := by rw [hH]; exact hP
  have hS : va_S A s.heap H [] := by rw [hH]; exact va_S.rf
  clear hH
  obtain ⟨locs, hlo⟩ : ∃ z : List Loc, z = [] := ⟨_, rfl⟩
  refine x_herl hlo ?_
  have hS : va_S A s.heap H locs := by rw [hlo]; exact hS
  clear hlo
  unfold f_X0_takeMore at hf
  refine lv_aload_n hx hb dX0_takeMore_0 rfl (lv_at hl 0 rfl) ?_
  refine va_get (D := (dC, dI)) (ci := 0) (v := .ref a0_5) (C := RX0) (T := TX0) (N := 17) hx hb hts i_X0_takeMore_X0 hown hK hP 0 rfl rfl 5 (by decide) k_1 (fun _ h9 => h9) rfl dX0_takeMore_1 ?_
  refine lv_aload_n hx hb dX0_takeMore_4 rfl (lv_at hl 0 rfl) ?_
  refine va_get (D := (dC, dI)) (ci := 0) (v := .int v0_6) (C := RX0) (T := TX0) (N := 17) hx hb hts i_X0_takeMore_X0 hown hK hP 0 rfl rfl 6 (by decide) k_2 (fun _ h9 => h9) rfl dX0_takeMore_5 ?_
  refine lv_iload_n hx hb dX0_takeMore_8 rfl (lv_at hl 1 rfl) ?_
  obtain ⟨g_1, hf⟩ := x_gu hf
  refine va_iast hx hb hK hP hD hS 1 0 rfl rfl (x_gdin g_1) dX0_takeMore_9 (fun H locs hP hD hS => ?_)
  have hP : va_P (dC, dI) vwCl [(o0, .inr (0, [.int v0_0, .int v0_1, .int v0_2, .int v0_3, .int v0_4, .ref a0_5, .int v0_6, .ref a0_7, .ref a0_8, .ref a0_9, .int v0_10, .ref a0_11, .ref a0_12, .ref a0_13, .ref a0_14, .int v0_15, .ref a0_16])), (a0_5, .inl (cyI, 20, .inl (upd g0_5 (Int32.toNatClampNeg v0_6) p1)))] H := hP
  have hD : va_D A [(o0, .inr (0, [.int v0_0, .int v0_1, .int v0_2, .int v0_3, .int v0_4, .ref a0_5, .int v0_6, .ref a0_7, .ref a0_8, .ref a0_9, .int v0_10, .ref a0_11, .ref a0_12, .ref a0_13, .ref a0_14, .int v0_15, .ref a0_16])), (a0_5, .inl (cyI, 20, .inl (upd g0_5 (Int32.toNatClampNeg v0_6) p1)))] := hD
  refine lv_aload_n hx hb dX0_takeMore_10 rfl (lv_at hl 0 rfl) ?_
  refine lv_dup hx hb dX0_takeMore_11 rfl ?_
  refine va_get (D := (dC, dI)) (ci := 0) (v := .int v0_6) (C := RX0) (T := TX0) (N := 17) hx hb hts i_X0_takeMore_X0 hown hK hP 0 rfl rfl 6 (by decide) k_2 (fun _ h9 => h9) rfl dX0_takeMore_12 ?_
  refine lv_iconst (v := 1) hx hb dX0_takeMore_15 (by decide) ?_
  refine lv_iadd hx hb dX0_takeMore_16 ?_
  refine va_put (D := (dC, dI)) (ci := 0) (v := .int (v0_6 + (1 : Int32))) (ty := .int) (C := RX0) (T := TX0) (N := 17) hx hb hts i_X0_takeMore_X0 tyX0 tyX0_ok nmX0 hown hK hP hD hS 0 rfl rfl 6 (by decide) k_2 (fun _ h9 => h9) rfl (by decide +kernel) rfl rfl (Nat.le_of_ble_eq_true rfl) dX0_takeMore_17 (fun H locs hP hD hS => ?_)
  have hP : va_P (dC, dI) vwCl [(o0, .inr (0, [.int v0_0, .int v0_1, .int v0_2, .int v0_3, .int v0_4, .ref a0_5, .int (v0_6 + (1 : Int32)), .ref a0_7, .ref a0_8, .ref a0_9, .int v0_10, .ref a0_11, .ref a0_12, .ref a0_13, .ref a0_14, .int v0_15, .ref a0_16])), (a0_5, .inl (cyI, 20, .inl (upd g0_5 (Int32.toNatClampNeg v0_6) p1)))] H := hP
  have hD : va_D A [(o0, .inr (0, [.int v0_0, .int v0_1, .int v0_2, .int v0_3, .int v0_4, .ref a0_5, .int (v0_6 + (1 : Int32)), .ref a0_7, .ref a0_8, .ref a0_9, .int v0_10, .ref a0_11, .ref a0_12, .ref a0_13, .ref a0_14, .int v0_15, .ref a0_16])), (a0_5, .inl (cyI, 20, .inl (upd g0_5 (Int32.toNatClampNeg v0_6) p1)))] := hD
  refine lv_aload_n hx hb dX0_takeMore_20 rfl (lv_at hl 0 rfl) ?_
  refine va_get (D := (dC, dI)) (ci := 0) (v := .int (v0_6 + (1 : Int32))) (C := RX0) (T := TX0) (N := 17) hx hb hts i_X0_takeMore_X0 hown hK hP 0 rfl rfl 6 (by decide) k_2 (fun _ h9 => h9) rfl dX0_takeMore_21 ?_
  obtain rfl := Option.some.inj hf
  have hP9 := hP.sub (ws' := [(o0, .inr (0, [.int v0_0, .int v0_1, .int v0_2, .int v0_3, .int v0_4, .ref a0_5, .int (v0_6 + (1 : Int32)), .ref a0_7, .ref a0_8, .ref a0_9, .int v0_10, .ref a0_11, .ref a0_12, .ref a0_13, .ref a0_14, .int v0_15, .ref a0_16])), (a0_5, .inl (cyI, 20, .inl (upd g0_5 (Int32.toNatClampNeg v0_6) p1)))]) [0, 1] rfl
  have hD9 := hD.sub (ws' := [(o0, .inr (0, [.int v0_0, .int v0_1, .int v0_2, .int v0_3, .int v0_4, .ref a0_5, .int (v0_6 + (1 : Int32)), .ref a0_7, .ref a0_8, .ref a0_9, .int v0_10, .ref a0_11, .ref a0_12, .ref a0_13, .ref a0_14, .int v0_15, .ref a0_16])), (a0_5, .inl (cyI, 20, .inl (upd g0_5 (Int32.toNatClampNeg v0_6) p1)))]) [0, 1] (by decide) rfl
  exact W.iret hx hb hr (fun t ht hW => ⟨⟨_, (), rfl, rfl, by rw [ht]; exact hP9, va_K.moved hW.alike hK, hD9⟩, hS.F ht⟩) hS.2.2 dX0_takeMore_24

def f_X0_enter (v0_10 : Int32) (g0_7 : Nat → Int32) (g0_8 : Nat → Int32) (g0_9 : Nat → Int32) (g0_12 : Nat → Int32) (g0_13 : Nat → Int32) (p1 : Int32) (p2 : Int32) (p3 : Int32) : Option (Int32 × Int32 × (Nat → Int32) × (Nat → Int32) × (Nat → Int32) × (Nat → Int32) × (Nat → Int32)) := if v0_10 ≤ (0 : Int32) then if x_gd v0_10 1000 = true then if x_gd v0_10 1000 = true then if x_gd v0_10 1000 = true then if x_gd v0_10 1000 = true then if x_gd v0_10 1000 = true then some (v0_10, v0_10 + (1 : Int32), upd g0_7 (Int32.toNatClampNeg v0_10) p1, upd g0_8 (Int32.toNatClampNeg v0_10) p2, upd g0_9 (Int32.toNatClampNeg v0_10) p3, upd g0_12 (Int32.toNatClampNeg v0_10) 0, upd g0_13 (Int32.toNatClampNeg v0_10) 0) else none else none else none else none else none else if x_gd (v0_10 - (1 : Int32)) 1000 = true then if x_gd v0_10 1000 = true then if x_gd v0_10 1000 = true then if x_gd v0_10 1000 = true then if x_gd v0_10 1000 = true then if x_gd v0_10 1000 = true then some (v0_10, v0_10 + (1 : Int32), upd g0_7 (Int32.toNatClampNeg v0_10) p1, upd g0_8 (Int32.toNatClampNeg v0_10) p2, upd g0_9 (Int32.toNatClampNeg v0_10) p3, upd g0_12 (Int32.toNatClampNeg v0_10) (g0_13 (Int32.toNatClampNeg (v0_10 - (1 : Int32)))), upd g0_13 (Int32.toNatClampNeg v0_10) (g0_13 (Int32.toNatClampNeg (v0_10 - (1 : Int32))))) else none else none else none else none else none else none
theorem i_X0_enter_X0 : ∀ w ∈ wsX00, w ∈ wsX0_enter := fun _ h => List.mem_cons_of_mem _ (List.mem_append_right _ h)
set_option maxHeartbeats 4000000 in
set_option maxRecDepth 100000 in
theorem c_X0_enter (l : Launch) (dC : Nat → ClassId) (dI : Nat → Nat → Nat) (cyI cyZ cyJ : ClassId) (sz : Nat) (o0 : Nat) (v0_0 : Int32) (v0_1 : Int32) (v0_2 : Int32) (v0_3 : Int32) (v0_4 : Int32) (a0_5 : Nat) (v0_6 : Int32) (a0_7 : Nat) (a0_8 : Nat) (a0_9 : Nat) (v0_10 : Int32) (a0_11 : Nat) (a0_12 : Nat) (a0_13 : Nat) (a0_14 : Nat) (v0_15 : Int32) (a0_16 : Nat) (g0_7 : Nat → Int32) (g0_8 : Nat → Int32) (g0_9 : Nat → Int32) (g0_12 : Nat → Int32) (g0_13 : Nat → Int32) (p1 : Int32) (p2 : Int32) (p3 : Int32) (R : Int32 × Int32 × (Nat → Int32) × (Nat → Int32) × (Nat → Int32) × (Nat → Int32) × (Nat → Int32)) (hf : f_X0_enter v0_10 g0_7 g0_8 g0_9 g0_12 g0_13 p1 p2 p3 = some R) : Met l yX0_enter wsX0_enter ({ frames := 0, cells := 0, slots := 0, locals := 0 }) (va_Pc [.ref o0, .int p1, .int p2, .int p3] (x_PreD (dC, dI) (x_T cyI cyZ cyJ) [(o0, .inr (0, [.int v0_0, .int v0_1, .int v0_2, .int v0_3, .int v0_4, .ref a0_5, .int v0_6, .ref a0_7, .ref a0_8, .ref a0_9, .int v0_10, .ref a0_11, .ref a0_12, .ref a0_13, .ref a0_14, .int v0_15, .ref a0_16])), (a0_7, .inl (cyI, 1000, .inl g0_7)), (a0_8, .inl (cyI, 1000, .inl g0_8)), (a0_9, .inl (cyI, 1000, .inl g0_9)), (a0_12, .inl (cyI, 1000, .inl g0_12)), (a0_13, .inl (cyI, 1000, .inl g0_13))] sz)) (va_Qi (fun (r : Int32) (_ : Unit) => r = R.1) (fun (_ : Unit) (t : State) => va_P (dC, dI) vwCl [(o0, .inr (0, [.int v0_0, .int v0_1, .int v0_2, .int v0_3, .int v0_4, .ref a0_5, .int v0_6, .ref a0_7, .ref a0_8, .ref a0_9, .int (R.2.1), .ref a0_11, .ref a0_12, .ref a0_13, .ref a0_14, .int v0_15, .ref a0_16])), (a0_7, .inl (cyI, 1000, .inl R.2.2.1)), (a0_8, .inl (cyI, 1000, .inl R.2.2.2.1)), (a0_9, .inl (cyI, 1000, .inl R.2.2.2.2.1)), (a0_12, .inl (cyI, 1000, .inl R.2.2.2.2.2.1)), (a0_13, .inl (cyI, 1000, .inl R.2.2.2.2.2.2))] t.heap ∧ va_K (dC, dI) vwCl (x_T cyI cyZ cyJ) t ∧ va_D (va_A [(o0, .inr (0, [.int v0_0, .int v0_1, .int v0_2, .int v0_3, .int v0_4, .ref a0_5, .int v0_6, .ref a0_7, .ref a0_8, .ref a0_9, .int v0_10, .ref a0_11, .ref a0_12, .ref a0_13, .ref a0_14, .int v0_15, .ref a0_16])), (a0_7, .inl (cyI, 1000, .inl g0_7)), (a0_8, .inl (cyI, 1000, .inl g0_8)), (a0_9, .inl (cyI, 1000, .inl g0_9)), (a0_12, .inl (cyI, 1000, .inl g0_12)), (a0_13, .inl (cyI, 1000, .inl g0_13))] sz) [(o0, .inr (0, [.int v0_0, .int v0_1, .int v0_2, .int v0_3, .int v0_4, .ref a0_5, .int v0_6, .ref a0_7, .ref a0_8, .ref a0_9, .int (R.2.1), .ref a0_11, .ref a0_12, .ref a0_13, .ref a0_14, .int v0_15, .ref a0_16])), (a0_7, .inl (cyI, 1000, .inl R.2.2.1)), (a0_8, .inl (cyI, 1000, .inl R.2.2.2.1)), (a0_9, .inl (cyI, 1000, .inl R.2.2.2.2.1)), (a0_12, .inl (cyI, 1000, .inl R.2.2.2.2.2.1)), (a0_13, .inl (cyI, 1000, .inl R.2.2.2.2.2.2))]) (va_A [(o0, .inr (0, [.int v0_0, .int v0_1, .int v0_2, .int v0_3, .int v0_4, .ref a0_5, .int v0_6, .ref a0_7, .ref a0_8, .ref a0_9, .int v0_10, .ref a0_11, .ref a0_12, .ref a0_13, .ref a0_14, .int v0_15, .ref a0_16])), (a0_7, .inl (cyI, 1000, .inl g0_7)), (a0_8, .inl (cyI, 1000, .inl g0_8)), (a0_9, .inl (cyI, 1000, .inl g0_9)), (a0_12, .inl (cyI, 1000, .inl g0_12)), (a0_13, .inl (cyI, 1000, .inl g0_13))] sz)) 0 0 (va_A [(o0, .inr (0, [.int v0_0, .int v0_1, .int v0_2, .int v0_3, .int v0_4, .ref a0_5, .int v0_6, .ref a0_7, .ref a0_8, .ref a0_9, .int v0_10, .ref a0_11, .ref a0_12, .ref a0_13, .ref a0_14, .int v0_15, .ref a0_16])), (a0_7, .inl (cyI, 1000, .inl g0_7)), (a0_8, .inl (cyI, 1000, .inl g0_8)), (a0_9, .inl (cyI, 1000, .inl g0_9)), (a0_12, .inl (cyI, 1000, .inl g0_12)), (a0_13, .inl (cyI, 1000, .inl g0_13))] sz) := by
  refine Met.ofW (cc := cX0_enter) (maxL := 5) (ret := (some .int)) (by decide) rfl ?_
  intro p e s m args below meth c s₁ B hml hv
  obtain ⟨rfl, ⟨hsz, hP, hK, hN⟩, hD0⟩ := hv
  have hx := B.exec
  have hb := B.bytes
  have hr := B.returns
  have hts := atoms_spec (ws := wsX0_enter) B.pre
  have hown : s.vm.findClass RX0 = some m.cls := findClass_of_methodNamed B.named
  have k_1 := hts (.fieldLink RX0 59 "FlowJudge$Code" "count" "I") (by decide +kernel)
  have k_2 := hts (.fieldLink RX0 19 "FlowJudge$Code" "ops" "[I") (by decide +kernel)
  have k_3 := hts (.fieldLink RX0 22 "FlowJudge$Code" "as" "[I") (by decide +kernel)
  have k_4 := hts (.fieldLink RX0 25 "FlowJudge$Code" "bs" "[I") (by decide +kernel)
  have k_5 := hts (.fieldLink RX0 31 "FlowJudge$Code" "firstSwitched" "[I") (by decide +kernel)
  have k_6 := hts (.fieldLink RX0 34 "FlowJudge$Code" "upToSwitched" "[I") (by decide +kernel)
  subst hsz
  have hD := hD0.self (sz := s.heap.size)
  generalize hAe : va_A [(o0, .inr (0, [.int v0_0, .int v0_1, .int v0_2, .int v0_3, .int v0_4, .ref a0_5, .int v0_6, .ref a0_7, .ref a0_8, .ref a0_9, .int v0_10, .ref a0_11, .ref a0_12, .ref a0_13, .ref a0_14, .int v0_15, .ref a0_16])), (a0_7, .inl (cyI, 1000, .inl g0_7)), (a0_8, .inl (cyI, 1000, .inl g0_8)), (a0_9, .inl (cyI, 1000, .inl g0_9)), (a0_12, .inl (cyI, 1000, .inl g0_12)), (a0_13, .inl (cyI, 1000, .inl g0_13))] s.heap.size = A at hD ⊢
  have hA : ∀ q : Nat, s.heap.size ≤ q → A q := fun q h => by rw [← hAe]; exact Or.inr h
  have hP : va_P (dC, dI) vwCl [(o0, .inr (0, [.int v0_0, .int v0_1, .int v0_2, .int v0_3, .int v0_4, .ref a0_5, .int v0_6, .ref a0_7, .ref a0_8, .ref a0_9, .int v0_10, .ref a0_11, .ref a0_12, .ref a0_13, .ref a0_14, .int v0_15, .ref a0_16])), (a0_7, .inl (cyI, 1000, .inl g0_7)), (a0_8, .inl (cyI, 1000, .inl g0_8)), (a0_9, .inl (cyI, 1000, .inl g0_9)), (a0_12, .inl (cyI, 1000, .inl g0_12)), (a0_13, .inl (cyI, 1000, .inl g0_13))] s.heap := hP
  have hl := lv_entry ([.ref o0, .int p1, .int p2, .int p3]) (n := 5) (Nat.le_of_ble_eq_true rfl)
  rw [lg_entry_eq]
  generalize (lg_sl ([.ref o0, .int p1, .int p2, .int p3]) ++ List.replicate (5 - (lg_sl ([.ref o0, .int p1, .int p2, .int p3])).length) Slot.unset).toArray = ls at hl ⊢
  have hl : lv_has ls 5 [(0, .ref o0), (1, .int p1), (2, .int p2), (3, .int p3)] := hl
  obtain ⟨H, hH⟩ : ∃ z, z = s.heap := ⟨_, rfl⟩
  refine x_here hH ?_
  have hP : va_P (dC, dI) vwCl [(o0, .inr (0, [.int v0_0, .int v0_1, .int v0_2, .int v0_3, .int v0_4, .ref a0_5, .int v0_6, .ref a0_7, .ref a0_8, .ref a0_9, .int v0_10, .ref a0_11, .ref a0_12, .ref a0_13, .ref a0_14, .int v0_15, .ref a0_16])), (a0_7, .inl (cyI, 1000, .inl g0_7)), (a0_8, .inl (cyI, 1000, .inl g0_8)), (a0_9, .inl (cyI, 1000, .inl g0_9)), (a0_12, .inl (cyI, 1000, .inl g0_12)), (a0_13, .inl (cyI, 1000, .inl g0_13))] H := by rw [hH]; exact hP
  have hS : va_S A s.heap H [] := by rw [hH]; exact va_S.rf
  clear hH
  obtain ⟨locs, hlo⟩ : ∃ z : List Loc, z = [] := ⟨_, rfl⟩
  refine x_herl hlo ?_
  have hS : va_S A s.heap H locs := by rw [hlo]; exact hS
  clear hlo
  unfold f_X0_enter at hf
  refine lv_aload_n hx hb dX0_enter_0 rfl (lv_at hl 0 rfl) ?_
  refine va_get (D := (dC, dI)) (ci := 0) (v := .int v0_10) (C := RX0) (T := TX0) (N := 17) hx hb hts i_X0_enter_X0 hown hK hP 0 rfl rfl 10 (by decide) k_1 (fun _ h9 => h9) rfl dX0_enter_1 ?_
  refine lv_if_le (tgt := 21) hx hb dX0_enter_4 (by decide) (fun c_1 => ?_) (fun c_1 => ?_)
  · replace hf := x_ip c_1 hf
    refine lv_iconst (v := 0) hx hb dX0_enter_21 (by decide) ?_
    refine lv_istore (lv' := [(4, .int 0), (0, .ref o0), (1, .int p1), (2, .int p2), (3, .int p3)]) hx hb dX0_enter_22 hl (by decide) rfl (fun ls hl => ?_)
    refine lv_aload_n hx hb dX0_enter_24 rfl (lv_at hl 1 rfl) ?_
    refine va_get (D := (dC, dI)) (ci := 0) (v := .ref a0_7) (C := RX0) (T := TX0) (N := 17) hx hb hts i_X0_enter_X0 hown hK hP 0 rfl rfl 7 (by decide) k_2 (fun _ h9 => h9) rfl dX0_enter_25 ?_
    refine lv_aload_n hx hb dX0_enter_28 rfl (lv_at hl 1 rfl) ?_
    refine va_get (D := (dC, dI)) (ci := 0) (v := .int v0_10) (C := RX0) (T := TX0) (N := 17) hx hb hts i_X0_enter_X0 hown hK hP 0 rfl rfl 10 (by decide) k_1 (fun _ h9 => h9) rfl dX0_enter_29 ?_
    refine lv_iload_n hx hb dX0_enter_32 rfl (lv_at hl 2 rfl) ?_
    obtain ⟨g_2, hf⟩ := x_gu hf
    refine va_iast hx hb hK hP hD hS 1 0 rfl rfl (x_gdin g_2) dX0_enter_33 (fun H locs hP hD hS => ?_)
    have hP : va_P (dC, dI) vwCl [(o0, .inr (0, [.int v0_0, .int v0_1, .int v0_2, .int v0_3, .int v0_4, .ref a0_5, .int v0_6, .ref a0_7, .ref a0_8, .ref a0_9, .int v0_10, .ref a0_11, .ref a0_12, .ref a0_13, .ref a0_14, .int v0_15, .ref a0_16])), (a0_7, .inl (cyI, 1000, .inl (upd g0_7 (Int32.toNatClampNeg v0_10) p1))), (a0_8, .inl (cyI, 1000, .inl g0_8)), (a0_9, .inl (cyI, 1000, .inl g0_9)), (a0_12, .inl (cyI, 1000, .inl g0_12)), (a0_13, .inl (cyI, 1000, .inl g0_13))] H := hP
    have hD : va_D A [(o0, .inr (0, [.int v0_0, .int v0_1, .int v0_2, .int v0_3, .int v0_4, .ref a0_5, .int v0_6, .ref a0_7, .ref a0_8, .ref a0_9, .int v0_10, .ref a0_11, .ref a0_12, .ref a0_13, .ref a0_14, .int v0_15, .ref a0_16])), (a0_7, .inl (cyI, 1000, .inl (upd g0_7 (Int32.toNatClampNeg v0_10) p1))), (a0_8, .inl (cyI, 1000, .inl g0_8)), (a0_9, .inl (cyI, 1000, .inl g0_9)), (a0_12, .inl (cyI, 1000, .inl g0_12)), (a0_13, .inl (cyI, 1000, .inl g0_13))] := hD
    refine lv_aload_n hx hb dX0_enter_34 rfl (lv_at hl 1 rfl) ?_
    refine va_get (D := (dC, dI)) (ci := 0) (v := .ref a0_8) (C := RX0) (T := TX0) (N := 17) hx hb hts i_X0_enter_X0 hown hK hP 0 rfl rfl 8 (by decide) k_3 (fun _ h9 => h9) rfl dX0_enter_35 ?_
    refine lv_aload_n hx hb dX0_enter_38 rfl (lv_at hl 1 rfl) ?_
    refine va_get (D := (dC, dI)) (ci := 0) (v := .int v0_10) (C := RX0) (T := TX0) (N := 17) hx hb hts i_X0_enter_X0 hown hK hP 0 rfl rfl 10 (by decide) k_1 (fun _ h9 => h9) rfl dX0_enter_39 ?_
    refine lv_iload_n hx hb dX0_enter_42 rfl (lv_at hl 3 rfl) ?_
    obtain ⟨g_3, hf⟩ := x_gu hf
    refine va_iast hx hb hK hP hD hS 2 0 rfl rfl (x_gdin g_3) dX0_enter_43 (fun H locs hP hD hS => ?_)
    have hP : va_P (dC, dI) vwCl [(o0, .inr (0, [.int v0_0, .int v0_1, .int v0_2, .int v0_3, .int v0_4, .ref a0_5, .int v0_6, .ref a0_7, .ref a0_8, .ref a0_9, .int v0_10, .ref a0_11, .ref a0_12, .ref a0_13, .ref a0_14, .int v0_15, .ref a0_16])), (a0_7, .inl (cyI, 1000, .inl (upd g0_7 (Int32.toNatClampNeg v0_10) p1))), (a0_8, .inl (cyI, 1000, .inl (upd g0_8 (Int32.toNatClampNeg v0_10) p2))), (a0_9, .inl (cyI, 1000, .inl g0_9)), (a0_12, .inl (cyI, 1000, .inl g0_12)), (a0_13, .inl (cyI, 1000, .inl g0_13))] H := hP
    have hD : va_D A [(o0, .inr (0, [.int v0_0, .int v0_1, .int v0_2, .int v0_3, .int v0_4, .ref a0_5, .int v0_6, .ref a0_7, .ref a0_8, .ref a0_9, .int v0_10, .ref a0_11, .ref a0_12, .ref a0_13, .ref a0_14, .int v0_15, .ref a0_16])), (a0_7, .inl (cyI, 1000, .inl (upd g0_7 (Int32.toNatClampNeg v0_10) p1))), (a0_8, .inl (cyI, 1000, .inl (upd g0_8 (Int32.toNatClampNeg v0_10) p2))), (a0_9, .inl (cyI, 1000, .inl g0_9)), (a0_12, .inl (cyI, 1000, .inl g0_12)), (a0_13, .inl (cyI, 1000, .inl g0_13))] := hD
    refine lv_aload_n hx hb dX0_enter_44 rfl (lv_at hl 1 rfl) ?_
    refine va_get (D := (dC, dI)) (ci := 0) (v := .ref a0_9) (C := RX0) (T := TX0) (N := 17) hx hb hts i_X0_enter_X0 hown hK hP 0 rfl rfl 9 (by decide) k_4 (fun _ h9 => h9) rfl dX0_enter_45 ?_
    refine lv_aload_n hx hb dX0_enter_48 rfl (lv_at hl 1 rfl) ?_
    refine va_get (D := (dC, dI)) (ci := 0) (v := .int v0_10) (C := RX0) (T := TX0) (N := 17) hx hb hts i_X0_enter_X0 hown hK hP 0 rfl rfl 10 (by decide) k_1 (fun _ h9 => h9) rfl dX0_enter_49 ?_
    refine lv_iload_n hx hb dX0_enter_52 rfl (lv_at hl 4 rfl) ?_
    obtain ⟨g_4, hf⟩ := x_gu hf
    refine va_iast hx hb hK hP hD hS 3 0 rfl rfl (x_gdin g_4) dX0_enter_53 (fun H locs hP hD hS => ?_)
    have hP : va_P (dC, dI) vwCl [(o0, .inr (0, [.int v0_0, .int v0_1, .int v0_2, .int v0_3, .int v0_4, .ref a0_5, .int v0_6, .ref a0_7, .ref a0_8, .ref a0_9, .int v0_10, .ref a0_11, .ref a0_12, .ref a0_13, .ref a0_14, .int v0_15, .ref a0_16])), (a0_7, .inl (cyI, 1000, .inl (upd g0_7 (Int32.toNatClampNeg v0_10) p1))), (a0_8, .inl (cyI, 1000, .inl (upd g0_8 (Int32.toNatClampNeg v0_10) p2))), (a0_9, .inl (cyI, 1000, .inl (upd g0_9 (Int32.toNatClampNeg v0_10) p3))), (a0_12, .inl (cyI, 1000, .inl g0_12)), (a0_13, .inl (cyI, 1000, .inl g0_13))] H := hP
    have hD : va_D A [(o0, .inr (0, [.int v0_0, .int v0_1, .int v0_2, .int v0_3, .int v0_4, .ref a0_5, .int v0_6, .ref a0_7, .ref a0_8, .ref a0_9, .int v0_10, .ref a0_11, .ref a0_12, .ref a0_13, .ref a0_14, .int v0_15, .ref a0_16])), (a0_7, .inl (cyI, 1000, .inl (upd g0_7 (Int32.toNatClampNeg v0_10) p1))), (a0_8, .inl (cyI, 1000, .inl (upd g0_8 (Int32.toNatClampNeg v0_10) p2))), (a0_9, .inl (cyI, 1000, .inl (upd g0_9 (Int32.toNatClampNeg v0_10) p3))), (a0_12, .inl (cyI, 1000, .inl g0_12)), (a0_13, .inl (cyI, 1000, .inl g0_13))] := hD
    refine lv_aload_n hx hb dX0_enter_54 rfl (lv_at hl 1 rfl) ?_
    refine va_get (D := (dC, dI)) (ci := 0) (v := .ref a0_12) (C := RX0) (T := TX0) (N := 17) hx hb hts i_X0_enter_X0 hown hK hP 0 rfl rfl 12 (by decide) k_5 (fun _ h9 => h9) rfl dX0_enter_55 ?_
    refine lv_aload_n hx hb dX0_enter_58 rfl (lv_at hl 1 rfl) ?_
    refine va_get (D := (dC, dI)) (ci := 0) (v := .int v0_10) (C := RX0) (T := TX0) (N := 17) hx hb hts i_X0_enter_X0 hown hK hP 0 rfl rfl 10 (by decide) k_1 (fun _ h9 => h9) rfl dX0_enter_59 ?_
    refine lv_iload hx hb dX0_enter_62 (lv_at hl 0 rfl) ?_
    obtain ⟨g_5, hf⟩ := x_gu hf
    refine va_iast hx hb hK hP hD hS 4 0 rfl rfl (x_gdin g_5) dX0_enter_64 (fun H locs hP hD hS => ?_)
    have hP : va_P (dC, dI) vwCl [(o0, .inr (0, [.int v0_0, .int v0_1, .int v0_2, .int v0_3, .int v0_4, .ref a0_5, .int v0_6, .ref a0_7, .ref a0_8, .ref a0_9, .int v0_10, .ref a0_11, .ref a0_12, .ref a0_13, .ref a0_14, .int v0_15, .ref a0_16])), (a0_7, .inl (cyI, 1000, .inl (upd g0_7 (Int32.toNatClampNeg v0_10) p1))), (a0_8, .inl (cyI, 1000, .inl (upd g0_8 (Int32.toNatClampNeg v0_10) p2))), (a0_9, .inl (cyI, 1000, .inl (upd g0_9 (Int32.toNatClampNeg v0_10) p3))), (a0_12, .inl (cyI, 1000, .inl (upd g0_12 (Int32.toNatClampNeg v0_10) 0))), (a0_13, .inl (cyI, 1000, .inl g0_13))] H := hP
    have hD : va_D A [(o0, .inr (0, [.int v0_0, .int v0_1, .int v0_2, .int v0_3, .int v0_4, .ref a0_5, .int v0_6, .ref a0_7, .ref a0_8, .ref a0_9, .int v0_10, .ref a0_11, .ref a0_12, .ref a0_13, .ref a0_14, .int v0_15, .ref a0_16])), (a0_7, .inl (cyI, 1000, .inl (upd g0_7 (Int32.toNatClampNeg v0_10) p1))), (a0_8, .inl (cyI, 1000, .inl (upd g0_8 (Int32.toNatClampNeg v0_10) p2))), (a0_9, .inl (cyI, 1000, .inl (upd g0_9 (Int32.toNatClampNeg v0_10) p3))), (a0_12, .inl (cyI, 1000, .inl (upd g0_12 (Int32.toNatClampNeg v0_10) 0))), (a0_13, .inl (cyI, 1000, .inl g0_13))] := hD
    refine lv_aload_n hx hb dX0_enter_65 rfl (lv_at hl 1 rfl) ?_
    refine va_get (D := (dC, dI)) (ci := 0) (v := .ref a0_13) (C := RX0) (T := TX0) (N := 17) hx hb hts i_X0_enter_X0 hown hK hP 0 rfl rfl 13 (by decide) k_6 (fun _ h9 => h9) rfl dX0_enter_66 ?_
    refine lv_aload_n hx hb dX0_enter_69 rfl (lv_at hl 1 rfl) ?_
    refine va_get (D := (dC, dI)) (ci := 0) (v := .int v0_10) (C := RX0) (T := TX0) (N := 17) hx hb hts i_X0_enter_X0 hown hK hP 0 rfl rfl 10 (by decide) k_1 (fun _ h9 => h9) rfl dX0_enter_70 ?_
    refine lv_iload hx hb dX0_enter_73 (lv_at hl 0 rfl) ?_
    obtain ⟨g_6, hf⟩ := x_gu hf
    refine va_iast hx hb hK hP hD hS 5 0 rfl rfl (x_gdin g_6) dX0_enter_75 (fun H locs hP hD hS => ?_)
    have hP : va_P (dC, dI) vwCl [(o0, .inr (0, [.int v0_0, .int v0_1, .int v0_2, .int v0_3, .int v0_4, .ref a0_5, .int v0_6, .ref a0_7, .ref a0_8, .ref a0_9, .int v0_10, .ref a0_11, .ref a0_12, .ref a0_13, .ref a0_14, .int v0_15, .ref a0_16])), (a0_7, .inl (cyI, 1000, .inl (upd g0_7 (Int32.toNatClampNeg v0_10) p1))), (a0_8, .inl (cyI, 1000, .inl (upd g0_8 (Int32.toNatClampNeg v0_10) p2))), (a0_9, .inl (cyI, 1000, .inl (upd g0_9 (Int32.toNatClampNeg v0_10) p3))), (a0_12, .inl (cyI, 1000, .inl (upd g0_12 (Int32.toNatClampNeg v0_10) 0))), (a0_13, .inl (cyI, 1000, .inl (upd g0_13 (Int32.toNatClampNeg v0_10) 0)))] H := hP
    have hD : va_D A [(o0, .inr (0, [.int v0_0, .int v0_1, .int v0_2, .int v0_3, .int v0_4, .ref a0_5, .int v0_6, .ref a0_7, .ref a0_8, .ref a0_9, .int v0_10, .ref a0_11, .ref a0_12, .ref a0_13, .ref a0_14, .int v0_15, .ref a0_16])), (a0_7, .inl (cyI, 1000, .inl (upd g0_7 (Int32.toNatClampNeg v0_10) p1))), (a0_8, .inl (cyI, 1000, .inl (upd g0_8 (Int32.toNatClampNeg v0_10) p2))), (a0_9, .inl (cyI, 1000, .inl (upd g0_9 (Int32.toNatClampNeg v0_10) p3))), (a0_12, .inl (cyI, 1000, .inl (upd g0_12 (Int32.toNatClampNeg v0_10) 0))), (a0_13, .inl (cyI, 1000, .inl (upd g0_13 (Int32.toNatClampNeg v0_10) 0)))] := hD
    refine lv_aload_n hx hb dX0_enter_76 rfl (lv_at hl 1 rfl) ?_
    refine lv_dup hx hb dX0_enter_77 rfl ?_
    refine va_get (D := (dC, dI)) (ci := 0) (v := .int v0_10) (C := RX0) (T := TX0) (N := 17) hx hb hts i_X0_enter_X0 hown hK hP 0 rfl rfl 10 (by decide) k_1 (fun _ h9 => h9) rfl dX0_enter_78 ?_
    refine lv_dup_x1 hx hb dX0_enter_81 rfl rfl ?_
    refine lv_iconst (v := 1) hx hb dX0_enter_82 (by decide) ?_
    refine lv_iadd hx hb dX0_enter_83 ?_
    refine va_put (D := (dC, dI)) (ci := 0) (v := .int (v0_10 + (1 : Int32))) (ty := .int) (C := RX0) (T := TX0) (N := 17) hx hb hts i_X0_enter_X0 tyX0 tyX0_ok nmX0 hown hK hP hD hS 0 rfl rfl 10 (by decide) k_1 (fun _ h9 => h9) rfl (by decide +kernel) rfl rfl (Nat.le_of_ble_eq_true rfl) dX0_enter_84 (fun H locs hP hD hS => ?_)
    have hP : va_P (dC, dI) vwCl [(o0, .inr (0, [.int v0_0, .int v0_1, .int v0_2, .int v0_3, .int v0_4, .ref a0_5, .int v0_6, .ref a0_7, .ref a0_8, .ref a0_9, .int (v0_10 + (1 : Int32)), .ref a0_11, .ref a0_12, .ref a0_13, .ref a0_14, .int v0_15, .ref a0_16])), (a0_7, .inl (cyI, 1000, .inl (upd g0_7 (Int32.toNatClampNeg v0_10) p1))), (a0_8, .inl (cyI, 1000, .inl (upd g0_8 (Int32.toNatClampNeg v0_10) p2))), (a0_9, .inl (cyI, 1000, .inl (upd g0_9 (Int32.toNatClampNeg v0_10) p3))), (a0_12, .inl (cyI, 1000, .inl (upd g0_12 (Int32.toNatClampNeg v0_10) 0))), (a0_13, .inl (cyI, 1000, .inl (upd g0_13 (Int32.toNatClampNeg v0_10) 0)))] H := hP
    have hD : va_D A [(o0, .inr (0, [.int v0_0, .int v0_1, .int v0_2, .int v0_3, .int v0_4, .ref a0_5, .int v0_6, .ref a0_7, .ref a0_8, .ref a0_9, .int (v0_10 + (1 : Int32)), .ref a0_11, .ref a0_12, .ref a0_13, .ref a0_14, .int v0_15, .ref a0_16])), (a0_7, .inl (cyI, 1000, .inl (upd g0_7 (Int32.toNatClampNeg v0_10) p1))), (a0_8, .inl (cyI, 1000, .inl (upd g0_8 (Int32.toNatClampNeg v0_10) p2))), (a0_9, .inl (cyI, 1000, .inl (upd g0_9 (Int32.toNatClampNeg v0_10) p3))), (a0_12, .inl (cyI, 1000, .inl (upd g0_12 (Int32.toNatClampNeg v0_10) 0))), (a0_13, .inl (cyI, 1000, .inl (upd g0_13 (Int32.toNatClampNeg v0_10) 0)))] := hD
    obtain rfl := Option.some.inj hf
    have hP9 := hP.sub (ws' := [(o0, .inr (0, [.int v0_0, .int v0_1, .int v0_2, .int v0_3, .int v0_4, .ref a0_5, .int v0_6, .ref a0_7, .ref a0_8, .ref a0_9, .int (v0_10 + (1 : Int32)), .ref a0_11, .ref a0_12, .ref a0_13, .ref a0_14, .int v0_15, .ref a0_16])), (a0_7, .inl (cyI, 1000, .inl (upd g0_7 (Int32.toNatClampNeg v0_10) p1))), (a0_8, .inl (cyI, 1000, .inl (upd g0_8 (Int32.toNatClampNeg v0_10) p2))), (a0_9, .inl (cyI, 1000, .inl (upd g0_9 (Int32.toNatClampNeg v0_10) p3))), (a0_12, .inl (cyI, 1000, .inl (upd g0_12 (Int32.toNatClampNeg v0_10) 0))), (a0_13, .inl (cyI, 1000, .inl (upd g0_13 (Int32.toNatClampNeg v0_10) 0)))]) [0, 1, 2, 3, 4, 5] rfl
    have hD9 := hD.sub (ws' := [(o0, .inr (0, [.int v0_0, .int v0_1, .int v0_2, .int v0_3, .int v0_4, .ref a0_5, .int v0_6, .ref a0_7, .ref a0_8, .ref a0_9, .int (v0_10 + (1 : Int32)), .ref a0_11, .ref a0_12, .ref a0_13, .ref a0_14, .int v0_15, .ref a0_16])), (a0_7, .inl (cyI, 1000, .inl (upd g0_7 (Int32.toNatClampNeg v0_10) p1))), (a0_8, .inl (cyI, 1000, .inl (upd g0_8 (Int32.toNatClampNeg v0_10) p2))), (a0_9, .inl (cyI, 1000, .inl (upd g0_9 (Int32.toNatClampNeg v0_10) p3))), (a0_12, .inl (cyI, 1000, .inl (upd g0_12 (Int32.toNatClampNeg v0_10) 0))), (a0_13, .inl (cyI, 1000, .inl (upd g0_13 (Int32.toNatClampNeg v0_10) 0)))]) [0, 1, 2, 3, 4, 5] (by decide) rfl
    exact W.iret hx hb hr (fun t ht hW => ⟨⟨_, (), rfl, rfl, by rw [ht]; exact hP9, va_K.moved hW.alike hK, hD9⟩, hS.F ht⟩) hS.2.2 dX0_enter_87
  · replace hf := x_in c_1 hf
    refine lv_aload_n hx hb dX0_enter_7 rfl (lv_at hl 0 rfl) ?_
    refine va_get (D := (dC, dI)) (ci := 0) (v := .ref a0_13) (C := RX0) (T := TX0) (N := 17) hx hb hts i_X0_enter_X0 hown hK hP 0 rfl rfl 13 (by decide) k_6 (fun _ h9 => h9) rfl dX0_enter_8 ?_
    refine lv_aload_n hx hb dX0_enter_11 rfl (lv_at hl 0 rfl) ?_
    refine va_get (D := (dC, dI)) (ci := 0) (v := .int v0_10) (C := RX0) (T := TX0) (N := 17) hx hb hts i_X0_enter_X0 hown hK hP 0 rfl rfl 10 (by decide) k_1 (fun _ h9 => h9) rfl dX0_enter_12 ?_
    refine lv_iconst (v := 1) hx hb dX0_enter_15 (by decide) ?_
    refine lv_isub hx hb dX0_enter_16 ?_
    obtain ⟨g_7, hf⟩ := x_gu hf
    refine va_iald hx hb hK hP 5 0 rfl rfl (x_gdin g_7) dX0_enter_17 ?_
    refine lv_goto (tgt := 22) hx hb dX0_enter_18 (by decide) ?_
    refine lv_istore (lv' := [(4, .int (g0_13 (Int32.toNatClampNeg (v0_10 - (1 : Int32))))), (0, .ref o0), (1, .int p1), (2, .int p2), (3, .int p3)]) hx hb dX0_enter_22 hl (by decide) rfl (fun ls hl => ?_)
    refine lv_aload_n hx hb dX0_enter_24 rfl (lv_at hl 1 rfl) ?_
    refine va_get (D := (dC, dI)) (ci := 0) (v := .ref a0_7) (C := RX0) (T := TX0) (N := 17) hx hb hts i_X0_enter_X0 hown hK hP 0 rfl rfl 7 (by decide) k_2 (fun _ h9 => h9) rfl dX0_enter_25 ?_
    refine lv_aload_n hx hb dX0_enter_28 rfl (lv_at hl 1 rfl) ?_
    refine va_get (D := (dC, dI)) (ci := 0) (v := .int v0_10) (C := RX0) (T := TX0) (N := 17) hx hb hts i_X0_enter_X0 hown hK hP 0 rfl rfl 10 (by decide) k_1 (fun _ h9 => h9) rfl dX0_enter_29 ?_
    refine lv_iload_n hx hb dX0_enter_32 rfl (lv_at hl 2 rfl) ?_
    obtain ⟨g_8, hf⟩ := x_gu hf
    refine va_iast hx hb hK hP hD hS 1 0 rfl rfl (x_gdin g_8) dX0_enter_33 (fun H locs hP hD hS => ?_)
    have hP : va_P (dC, dI) vwCl [(o0, .inr (0, [.int v0_0, .int v0_1, .int v0_2, .int v0_3, .int v0_4, .ref a0_5, .int v0_6, .ref a0_7, .ref a0_8, .ref a0_9, .int v0_10, .ref a0_11, .ref a0_12, .ref a0_13, .ref a0_14, .int v0_15, .ref a0_16])), (a0_7, .inl (cyI, 1000, .inl (upd g0_7 (Int32.toNatClampNeg v0_10) p1))), (a0_8, .inl (cyI, 1000, .inl g0_8)), (a0_9, .inl (cyI, 1000, .inl g0_9)), (a0_12, .inl (cyI, 1000, .inl g0_12)), (a0_13, .inl (cyI, 1000, .inl g0_13))] H := hP
    have hD : va_D A [(o0, .inr (0, [.int v0_0, .int v0_1, .int v0_2, .int v0_3, .int v0_4, .ref a0_5, .int v0_6, .ref a0_7, .ref a0_8, .ref a0_9, .int v0_10, .ref a0_11, .ref a0_12, .ref a0_13, .ref a0_14, .int v0_15, .ref a0_16])), (a0_7, .inl (cyI, 1000, .inl (upd g0_7 (Int32.toNatClampNeg v0_10) p1))), (a0_8, .inl (cyI, 1000, .inl g0_8)), (a0_9, .inl (cyI, 1000, .inl g0_9)), (a0_12, .inl (cyI, 1000, .inl g0_12)), (a0_13, .inl (cyI, 1000, .inl g0_13))] := hD
    refine lv_aload_n hx hb dX0_enter_34 rfl (lv_at hl 1 rfl) ?_
    refine va_get (D := (dC, dI)) (ci := 0) (v := .ref a0_8) (C := RX0) (T := TX0) (N := 17) hx hb hts i_X0_enter_X0 hown hK hP 0 rfl rfl 8 (by decide) k_3 (fun _ h9 => h9) rfl dX0_enter_35 ?_
    refine lv_aload_n hx hb dX0_enter_38 rfl (lv_at hl 1 rfl) ?_
    refine va_get (D := (dC, dI)) (ci := 0) (v := .int v0_10) (C := RX0) (T := TX0) (N := 17) hx hb hts i_X0_enter_X0 hown hK hP 0 rfl rfl 10 (by decide) k_1 (fun _ h9 => h9) rfl dX0_enter_39 ?_
    refine lv_iload_n hx hb dX0_enter_42 rfl (lv_at hl 3 rfl) ?_
    obtain ⟨g_9, hf⟩ := x_gu hf
    refine va_iast hx hb hK hP hD hS 2 0 rfl rfl (x_gdin g_9) dX0_enter_43 (fun H locs hP hD hS => ?_)
    have hP : va_P (dC, dI) vwCl [(o0, .inr (0, [.int v0_0, .int v0_1, .int v0_2, .int v0_3, .int v0_4, .ref a0_5, .int v0_6, .ref a0_7, .ref a0_8, .ref a0_9, .int v0_10, .ref a0_11, .ref a0_12, .ref a0_13, .ref a0_14, .int v0_15, .ref a0_16])), (a0_7, .inl (cyI, 1000, .inl (upd g0_7 (Int32.toNatClampNeg v0_10) p1))), (a0_8, .inl (cyI, 1000, .inl (upd g0_8 (Int32.toNatClampNeg v0_10) p2))), (a0_9, .inl (cyI, 1000, .inl g0_9)), (a0_12, .inl (cyI, 1000, .inl g0_12)), (a0_13, .inl (cyI, 1000, .inl g0_13))] H := hP
    have hD : va_D A [(o0, .inr (0, [.int v0_0, .int v0_1, .int v0_2, .int v0_3, .int v0_4, .ref a0_5, .int v0_6, .ref a0_7, .ref a0_8, .ref a0_9, .int v0_10, .ref a0_11, .ref a0_12, .ref a0_13, .ref a0_14, .int v0_15, .ref a0_16])), (a0_7, .inl (cyI, 1000, .inl (upd g0_7 (Int32.toNatClampNeg v0_10) p1))), (a0_8, .inl (cyI, 1000, .inl (upd g0_8 (Int32.toNatClampNeg v0_10) p2))), (a0_9, .inl (cyI, 1000, .inl g0_9)), (a0_12, .inl (cyI, 1000, .inl g0_12)), (a0_13, .inl (cyI, 1000, .inl g0_13))] := hD
    refine lv_aload_n hx hb dX0_enter_44 rfl (lv_at hl 1 rfl) ?_
    refine va_get (D := (dC, dI)) (ci := 0) (v := .ref a0_9) (C := RX0) (T := TX0) (N := 17) hx hb hts i_X0_enter_X0 hown hK hP 0 rfl rfl 9 (by decide) k_4 (fun _ h9 => h9) rfl dX0_enter_45 ?_
    refine lv_aload_n hx hb dX0_enter_48 rfl (lv_at hl 1 rfl) ?_
    refine va_get (D := (dC, dI)) (ci := 0) (v := .int v0_10) (C := RX0) (T := TX0) (N := 17) hx hb hts i_X0_enter_X0 hown hK hP 0 rfl rfl 10 (by decide) k_1 (fun _ h9 => h9) rfl dX0_enter_49 ?_
    refine lv_iload_n hx hb dX0_enter_52 rfl (lv_at hl 4 rfl) ?_
    obtain ⟨g_10, hf⟩ := x_gu hf
    refine va_iast hx hb hK hP hD hS 3 0 rfl rfl (x_gdin g_10) dX0_enter_53 (fun H locs hP hD hS => ?_)
    have hP : va_P (dC, dI) vwCl [(o0, .inr (0, [.int v0_0, .int v0_1, .int v0_2, .int v0_3, .int v0_4, .ref a0_5, .int v0_6, .ref a0_7, .ref a0_8, .ref a0_9, .int v0_10, .ref a0_11, .ref a0_12, .ref a0_13, .ref a0_14, .int v0_15, .ref a0_16])), (a0_7, .inl (cyI, 1000, .inl (upd g0_7 (Int32.toNatClampNeg v0_10) p1))), (a0_8, .inl (cyI, 1000, .inl (upd g0_8 (Int32.toNatClampNeg v0_10) p2))), (a0_9, .inl (cyI, 1000, .inl (upd g0_9 (Int32.toNatClampNeg v0_10) p3))), (a0_12, .inl (cyI, 1000, .inl g0_12)), (a0_13, .inl (cyI, 1000, .inl g0_13))] H := hP
    have hD : va_D A [(o0, .inr (0, [.int v0_0, .int v0_1, .int v0_2, .int v0_3, .int v0_4, .ref a0_5, .int v0_6, .ref a0_7, .ref a0_8, .ref a0_9, .int v0_10, .ref a0_11, .ref a0_12, .ref a0_13, .ref a0_14, .int v0_15, .ref a0_16])), (a0_7, .inl (cyI, 1000, .inl (upd g0_7 (Int32.toNatClampNeg v0_10) p1))), (a0_8, .inl (cyI, 1000, .inl (upd g0_8 (Int32.toNatClampNeg v0_10) p2))), (a0_9, .inl (cyI, 1000, .inl (upd g0_9 (Int32.toNatClampNeg v0_10) p3))), (a0_12, .inl (cyI, 1000, .inl g0_12)), (a0_13, .inl (cyI, 1000, .inl g0_13))] := hD
    refine lv_aload_n hx hb dX0_enter_54 rfl (lv_at hl 1 rfl) ?_
    refine va_get (D := (dC, dI)) (ci := 0) (v := .ref a0_12) (C := RX0) (T := TX0) (N := 17) hx hb hts i_X0_enter_X0 hown hK hP 0 rfl rfl 12 (by decide) k_5 (fun _ h9 => h9) rfl dX0_enter_55 ?_
    refine lv_aload_n hx hb dX0_enter_58 rfl (lv_at hl 1 rfl) ?_
    refine va_get (D := (dC, dI)) (ci := 0) (v := .int v0_10) (C := RX0) (T := TX0) (N := 17) hx hb hts i_X0_enter_X0 hown hK hP 0 rfl rfl 10 (by decide) k_1 (fun _ h9 => h9) rfl dX0_enter_59 ?_
    refine lv_iload hx hb dX0_enter_62 (lv_at hl 0 rfl) ?_
    obtain ⟨g_11, hf⟩ := x_gu hf
    refine va_iast hx hb hK hP hD hS 4 0 rfl rfl (x_gdin g_11) dX0_enter_64 (fun H locs hP hD hS => ?_)
    have hP : va_P (dC, dI) vwCl [(o0, .inr (0, [.int v0_0, .int v0_1, .int v0_2, .int v0_3, .int v0_4, .ref a0_5, .int v0_6, .ref a0_7, .ref a0_8, .ref a0_9, .int v0_10, .ref a0_11, .ref a0_12, .ref a0_13, .ref a0_14, .int v0_15, .ref a0_16])), (a0_7, .inl (cyI, 1000, .inl (upd g0_7 (Int32.toNatClampNeg v0_10) p1))), (a0_8, .inl (cyI, 1000, .inl (upd g0_8 (Int32.toNatClampNeg v0_10) p2))), (a0_9, .inl (cyI, 1000, .inl (upd g0_9 (Int32.toNatClampNeg v0_10) p3))), (a0_12, .inl (cyI, 1000, .inl (upd g0_12 (Int32.toNatClampNeg v0_10) (g0_13 (Int32.toNatClampNeg (v0_10 - (1 : Int32))))))), (a0_13, .inl (cyI, 1000, .inl g0_13))] H := hP
    have hD : va_D A [(o0, .inr (0, [.int v0_0, .int v0_1, .int v0_2, .int v0_3, .int v0_4, .ref a0_5, .int v0_6, .ref a0_7, .ref a0_8, .ref a0_9, .int v0_10, .ref a0_11, .ref a0_12, .ref a0_13, .ref a0_14, .int v0_15, .ref a0_16])), (a0_7, .inl (cyI, 1000, .inl (upd g0_7 (Int32.toNatClampNeg v0_10) p1))), (a0_8, .inl (cyI, 1000, .inl (upd g0_8 (Int32.toNatClampNeg v0_10) p2))), (a0_9, .inl (cyI, 1000, .inl (upd g0_9 (Int32.toNatClampNeg v0_10) p3))), (a0_12, .inl (cyI, 1000, .inl (upd g0_12 (Int32.toNatClampNeg v0_10) (g0_13 (Int32.toNatClampNeg (v0_10 - (1 : Int32))))))), (a0_13, .inl (cyI, 1000, .inl g0_13))] := hD
    refine lv_aload_n hx hb dX0_enter_65 rfl (lv_at hl 1 rfl) ?_
    refine va_get (D := (dC, dI)) (ci := 0) (v := .ref a0_13) (C := RX0) (T := TX0) (N := 17) hx hb hts i_X0_enter_X0 hown hK hP 0 rfl rfl 13 (by decide) k_6 (fun _ h9 => h9) rfl dX0_enter_66 ?_
    refine lv_aload_n hx hb dX0_enter_69 rfl (lv_at hl 1 rfl) ?_
    refine va_get (D := (dC, dI)) (ci := 0) (v := .int v0_10) (C := RX0) (T := TX0) (N := 17) hx hb hts i_X0_enter_X0 hown hK hP 0 rfl rfl 10 (by decide) k_1 (fun _ h9 => h9) rfl dX0_enter_70 ?_
    refine lv_iload hx hb dX0_enter_73 (lv_at hl 0 rfl) ?_
    obtain ⟨g_12, hf⟩ := x_gu hf
    refine va_iast hx hb hK hP hD hS 5 0 rfl rfl (x_gdin g_12) dX0_enter_75 (fun H locs hP hD hS => ?_)
    have hP : va_P (dC, dI) vwCl [(o0, .inr (0, [.int v0_0, .int v0_1, .int v0_2, .int v0_3, .int v0_4, .ref a0_5, .int v0_6, .ref a0_7, .ref a0_8, .ref a0_9, .int v0_10, .ref a0_11, .ref a0_12, .ref a0_13, .ref a0_14, .int v0_15, .ref a0_16])), (a0_7, .inl (cyI, 1000, .inl (upd g0_7 (Int32.toNatClampNeg v0_10) p1))), (a0_8, .inl (cyI, 1000, .inl (upd g0_8 (Int32.toNatClampNeg v0_10) p2))), (a0_9, .inl (cyI, 1000, .inl (upd g0_9 (Int32.toNatClampNeg v0_10) p3))), (a0_12, .inl (cyI, 1000, .inl (upd g0_12 (Int32.toNatClampNeg v0_10) (g0_13 (Int32.toNatClampNeg (v0_10 - (1 : Int32))))))), (a0_13, .inl (cyI, 1000, .inl (upd g0_13 (Int32.toNatClampNeg v0_10) (g0_13 (Int32.toNatClampNeg (v0_10 - (1 : Int32)))))))] H := hP
    have hD : va_D A [(o0, .inr (0, [.int v0_0, .int v0_1, .int v0_2, .int v0_3, .int v0_4, .ref a0_5, .int v0_6, .ref a0_7, .ref a0_8, .ref a0_9, .int v0_10, .ref a0_11, .ref a0_12, .ref a0_13, .ref a0_14, .int v0_15, .ref a0_16])), (a0_7, .inl (cyI, 1000, .inl (upd g0_7 (Int32.toNatClampNeg v0_10) p1))), (a0_8, .inl (cyI, 1000, .inl (upd g0_8 (Int32.toNatClampNeg v0_10) p2))), (a0_9, .inl (cyI, 1000, .inl (upd g0_9 (Int32.toNatClampNeg v0_10) p3))), (a0_12, .inl (cyI, 1000, .inl (upd g0_12 (Int32.toNatClampNeg v0_10) (g0_13 (Int32.toNatClampNeg (v0_10 - (1 : Int32))))))), (a0_13, .inl (cyI, 1000, .inl (upd g0_13 (Int32.toNatClampNeg v0_10) (g0_13 (Int32.toNatClampNeg (v0_10 - (1 : Int32)))))))] := hD
    refine lv_aload_n hx hb dX0_enter_76 rfl (lv_at hl 1 rfl) ?_
    refine lv_dup hx hb dX0_enter_77 rfl ?_
    refine va_get (D := (dC, dI)) (ci := 0) (v := .int v0_10) (C := RX0) (T := TX0) (N := 17) hx hb hts i_X0_enter_X0 hown hK hP 0 rfl rfl 10 (by decide) k_1 (fun _ h9 => h9) rfl dX0_enter_78 ?_
    refine lv_dup_x1 hx hb dX0_enter_81 rfl rfl ?_
    refine lv_iconst (v := 1) hx hb dX0_enter_82 (by decide) ?_
    refine lv_iadd hx hb dX0_enter_83 ?_
    refine va_put (D := (dC, dI)) (ci := 0) (v := .int (v0_10 + (1 : Int32))) (ty := .int) (C := RX0) (T := TX0) (N := 17) hx hb hts i_X0_enter_X0 tyX0 tyX0_ok nmX0 hown hK hP hD hS 0 rfl rfl 10 (by decide) k_1 (fun _ h9 => h9) rfl (by decide +kernel) rfl rfl (Nat.le_of_ble_eq_true rfl) dX0_enter_84 (fun H locs hP hD hS => ?_)
    have hP : va_P (dC, dI) vwCl [(o0, .inr (0, [.int v0_0, .int v0_1, .int v0_2, .int v0_3, .int v0_4, .ref a0_5, .int v0_6, .ref a0_7, .ref a0_8, .ref a0_9, .int (v0_10 + (1 : Int32)), .ref a0_11, .ref a0_12, .ref a0_13, .ref a0_14, .int v0_15, .ref a0_16])), (a0_7, .inl (cyI, 1000, .inl (upd g0_7 (Int32.toNatClampNeg v0_10) p1))), (a0_8, .inl (cyI, 1000, .inl (upd g0_8 (Int32.toNatClampNeg v0_10) p2))), (a0_9, .inl (cyI, 1000, .inl (upd g0_9 (Int32.toNatClampNeg v0_10) p3))), (a0_12, .inl (cyI, 1000, .inl (upd g0_12 (Int32.toNatClampNeg v0_10) (g0_13 (Int32.toNatClampNeg (v0_10 - (1 : Int32))))))), (a0_13, .inl (cyI, 1000, .inl (upd g0_13 (Int32.toNatClampNeg v0_10) (g0_13 (Int32.toNatClampNeg (v0_10 - (1 : Int32)))))))] H := hP
    have hD : va_D A [(o0, .inr (0, [.int v0_0, .int v0_1, .int v0_2, .int v0_3, .int v0_4, .ref a0_5, .int v0_6, .ref a0_7, .ref a0_8, .ref a0_9, .int (v0_10 + (1 : Int32)), .ref a0_11, .ref a0_12, .ref a0_13, .ref a0_14, .int v0_15, .ref a0_16])), (a0_7, .inl (cyI, 1000, .inl (upd g0_7 (Int32.toNatClampNeg v0_10) p1))), (a0_8, .inl (cyI, 1000, .inl (upd g0_8 (Int32.toNatClampNeg v0_10) p2))), (a0_9, .inl (cyI, 1000, .inl (upd g0_9 (Int32.toNatClampNeg v0_10) p3))), (a0_12, .inl (cyI, 1000, .inl (upd g0_12 (Int32.toNatClampNeg v0_10) (g0_13 (Int32.toNatClampNeg (v0_10 - (1 : Int32))))))), (a0_13, .inl (cyI, 1000, .inl (upd g0_13 (Int32.toNatClampNeg v0_10) (g0_13 (Int32.toNatClampNeg (v0_10 - (1 : Int32)))))))] := hD
    obtain rfl := Option.some.inj hf
    have hP9 := hP.sub (ws' := [(o0, .inr (0, [.int v0_0, .int v0_1, .int v0_2, .int v0_3, .int v0_4, .ref a0_5, .int v0_6, .ref a0_7, .ref a0_8, .ref a0_9, .int (v0_10 + (1 : Int32)), .ref a0_11, .ref a0_12, .ref a0_13, .ref a0_14, .int v0_15, .ref a0_16])), (a0_7, .inl (cyI, 1000, .inl (upd g0_7 (Int32.toNatClampNeg v0_10) p1))), (a0_8, .inl (cyI, 1000, .inl (upd g0_8 (Int32.toNatClampNeg v0_10) p2))), (a0_9, .inl (cyI, 1000, .inl (upd g0_9 (Int32.toNatClampNeg v0_10) p3))), (a0_12, .inl (cyI, 1000, .inl (upd g0_12 (Int32.toNatClampNeg v0_10) (g0_13 (Int32.toNatClampNeg (v0_10 - (1 : Int32))))))), (a0_13, .inl (cyI, 1000, .inl (upd g0_13 (Int32.toNatClampNeg v0_10) (g0_13 (Int32.toNatClampNeg (v0_10 - (1 : Int32)))))))]) [0, 1, 2, 3, 4, 5] rfl
    have hD9 := hD.sub (ws' := [(o0, .inr (0, [.int v0_0, .int v0_1, .int v0_2, .int v0_3, .int v0_4, .ref a0_5, .int v0_6, .ref a0_7, .ref a0_8, .ref a0_9, .int (v0_10 + (1 : Int32)), .ref a0_11, .ref a0_12, .ref a0_13, .ref a0_14, .int v0_15, .ref a0_16])), (a0_7, .inl (cyI, 1000, .inl (upd g0_7 (Int32.toNatClampNeg v0_10) p1))), (a0_8, .inl (cyI, 1000, .inl (upd g0_8 (Int32.toNatClampNeg v0_10) p2))), (a0_9, .inl (cyI, 1000, .inl (upd g0_9 (Int32.toNatClampNeg v0_10) p3))), (a0_12, .inl (cyI, 1000, .inl (upd g0_12 (Int32.toNatClampNeg v0_10) (g0_13 (Int32.toNatClampNeg (v0_10 - (1 : Int32))))))), (a0_13, .inl (cyI, 1000, .inl (upd g0_13 (Int32.toNatClampNeg v0_10) (g0_13 (Int32.toNatClampNeg (v0_10 - (1 : Int32)))))))]) [0, 1, 2, 3, 4, 5] (by decide) rfl
    exact W.iret hx hb hr (fun t ht hW => ⟨⟨_, (), rfl, rfl, by rw [ht]; exact hP9, va_K.moved hW.alike hK, hD9⟩, hS.F ht⟩) hS.2.2 dX0_enter_87

def f_X0_canSwitchToMore (v0_10 : Int32) (g0_7 : Nat → Int32) (g0_12 : Nat → Int32) (g0_13 : Nat → Int32) : Option (Int32) := if (v0_10 - (1 : Int32)) < (0 : Int32) then some 0 else if x_gd (v0_10 - (1 : Int32)) 1000 = true then (f_X0_isSwitch (g0_7 (Int32.toNatClampNeg (v0_10 - (1 : Int32))))) >>= (fun r_3 => if r_3 = (0 : Int32) then some 0 else if x_gd (v0_10 - (1 : Int32)) 1000 = true then if x_gd (v0_10 - (1 : Int32)) 1000 = true then if (50 : Int32) ≤ ((g0_13 (Int32.toNatClampNeg (v0_10 - (1 : Int32)))) - (g0_12 (Int32.toNatClampNeg (v0_10 - (1 : Int32))))) then some 0 else some 1 else none else none) else none
theorem i_X0_canSwitchToMore_X0 : ∀ w ∈ wsX00, w ∈ wsX0_canSwitchToMore := fun _ h => List.mem_cons_of_mem _ (List.mem_append_right _ h)
set_option maxHeartbeats 4000000 in
set_option maxRecDepth 100000 in
theorem c_X0_canSwitchToMore (l : Launch) (dC : Nat → ClassId) (dI : Nat → Nat → Nat) (cyI cyZ cyJ : ClassId) (sz : Nat) (o0 : Nat) (v0_0 : Int32) (v0_1 : Int32) (v0_2 : Int32) (v0_3 : Int32) (v0_4 : Int32) (a0_5 : Nat) (v0_6 : Int32) (a0_7 : Nat) (a0_8 : Nat) (a0_9 : Nat) (v0_10 : Int32) (a0_11 : Nat) (a0_12 : Nat) (a0_13 : Nat) (a0_14 : Nat) (v0_15 : Int32) (a0_16 : Nat) (g0_7 : Nat → Int32) (g0_12 : Nat → Int32) (g0_13 : Nat → Int32) (R : Int32) (hf : f_X0_canSwitchToMore v0_10 g0_7 g0_12 g0_13 = some R) : Met l yX0_canSwitchToMore wsX0_canSwitchToMore ({ frames := 1, cells := 0, slots := 0, locals := 20 }) (va_Pc [.ref o0] (x_Pre (dC, dI) (x_T cyI cyZ cyJ) [(o0, .inr (0, [.int v0_0, .int v0_1, .int v0_2, .int v0_3, .int v0_4, .ref a0_5, .int v0_6, .ref a0_7, .ref a0_8, .ref a0_9, .int v0_10, .ref a0_11, .ref a0_12, .ref a0_13, .ref a0_14, .int v0_15, .ref a0_16])), (a0_7, .inl (cyI, 1000, .inl g0_7)), (a0_12, .inl (cyI, 1000, .inl g0_12)), (a0_13, .inl (cyI, 1000, .inl g0_13))] sz)) (va_Qi (fun (r : Int32) (_ : Unit) => r = R ∧ x_nb r) (fun _ _ => True) (x_new sz)) 0 0 (x_new sz) := by
  refine Met.ofW (cc := cX0_canSwitchToMore) (maxL := 2) (ret := (some .boolean)) (by decide) rfl ?_
  intro p e s m args below meth c s₁ B hml hv
  obtain ⟨rfl, hsz, hP, hK, hN⟩ := hv
  have hx := B.exec
  have hb := B.bytes
  have hr := B.returns
  have hts := atoms_spec (ws := wsX0_canSwitchToMore) B.pre
  have hown : s.vm.findClass RX0 = some m.cls := findClass_of_methodNamed B.named
  have k_1 := hts (.fieldLink RX0 59 "FlowJudge$Code" "count" "I") (by decide +kernel)
  have k_2 := hts (.fieldLink RX0 19 "FlowJudge$Code" "ops" "[I") (by decide +kernel)
  have k_3 := hts (.fieldLink RX0 34 "FlowJudge$Code" "upToSwitched" "[I") (by decide +kernel)
  have k_4 := hts (.fieldLink RX0 31 "FlowJudge$Code" "firstSwitched" "[I") (by decide +kernel)
  subst hsz
  have hA : ∀ q : Nat, s.heap.size ≤ q → x_new s.heap.size q := fun _ h => h
  have hS : va_S (x_new s.heap.size) s.heap s.heap [] := va_S.rf
  have hP : va_P (dC, dI) vwCl [(o0, .inr (0, [.int v0_0, .int v0_1, .int v0_2, .int v0_3, .int v0_4, .ref a0_5, .int v0_6, .ref a0_7, .ref a0_8, .ref a0_9, .int v0_10, .ref a0_11, .ref a0_12, .ref a0_13, .ref a0_14, .int v0_15, .ref a0_16])), (a0_7, .inl (cyI, 1000, .inl g0_7)), (a0_12, .inl (cyI, 1000, .inl g0_12)), (a0_13, .inl (cyI, 1000, .inl g0_13))] s.heap := hP
  have hl := lv_entry ([.ref o0]) (n := 2) (Nat.le_of_ble_eq_true rfl)
  rw [lg_entry_eq]
  generalize (lg_sl ([.ref o0]) ++ List.replicate (2 - (lg_sl ([.ref o0])).length) Slot.unset).toArray = ls at hl ⊢
  have hl : lv_has ls 2 [(0, .ref o0)] := hl
  obtain ⟨H, hH⟩ : ∃ z, z = s.heap := ⟨_, rfl⟩
  refine x_here hH ?_
  have hP : va_P (dC, dI) vwCl [(o0, .inr (0, [.int v0_0, .int v0_1, .int v0_2, .int v0_3, .int v0_4, .ref a0_5, .int v0_6, .ref a0_7, .ref a0_8, .ref a0_9, .int v0_10, .ref a0_11, .ref a0_12, .ref a0_13, .ref a0_14, .int v0_15, .ref a0_16])), (a0_7, .inl (cyI, 1000, .inl g0_7)), (a0_12, .inl (cyI, 1000, .inl g0_12)), (a0_13, .inl (cyI, 1000, .inl g0_13))] H := by rw [hH]; exact hP
  have hS : va_S (x_new s.heap.size) s.heap H [] := by rw [hH]; exact va_S.rf
  clear hH
  obtain ⟨locs, hlo⟩ : ∃ z : List Loc, z = [] := ⟨_, rfl⟩
  refine x_herl hlo ?_
  have hS : va_S (x_new s.heap.size) s.heap H locs := by rw [hlo]; exact hS
  clear hlo
  unfold f_X0_canSwitchToMore at hf
  refine lv_aload_n hx hb dX0_canSwitchToMore_0 rfl (lv_at hl 0 rfl) ?_
  refine va_get (D := (dC, dI)) (ci := 0) (v := .int v0_10) (C := RX0) (T := TX0) (N := 17) hx hb hts i_X0_canSwitchToMore_X0 hown hK hP 0 rfl rfl 10 (by decide) k_1 (fun _ h9 => h9) rfl dX0_canSwitchToMore_1 ?_
  refine lv_iconst (v := 1) hx hb dX0_canSwitchToMore_4 (by decide) ?_
  refine lv_isub hx hb dX0_canSwitchToMore_5 ?_
  refine lv_istore_n (lv' := [(1, .int (v0_10 - (1 : Int32))), (0, .ref o0)]) hx hb dX0_canSwitchToMore_6 rfl hl (by decide) rfl (fun ls hl => ?_)
  refine lv_iload_n hx hb dX0_canSwitchToMore_7 rfl (lv_at hl 0 rfl) ?_
  refine lv_if_lt (tgt := 45) hx hb dX0_canSwitchToMore_8 (by decide) (fun c_1 => ?_) (fun c_1 => ?_)
  · replace hf := x_ip c_1 hf
    refine lv_iconst (v := 0) hx hb dX0_canSwitchToMore_45 (by decide) ?_
    obtain rfl := Option.some.inj hf
    exact W.zret (ty := .boolean) hx hb hr rfl (fun t ht hW => ⟨⟨_, (), rfl, ⟨rfl, rfl⟩, trivial⟩, hS.F ht⟩) hS.2.2 dX0_canSwitchToMore_46
  · replace hf := x_in c_1 hf
    refine lv_aload_n hx hb dX0_canSwitchToMore_11 rfl (lv_at hl 1 rfl) ?_
    refine va_get (D := (dC, dI)) (ci := 0) (v := .ref a0_7) (C := RX0) (T := TX0) (N := 17) hx hb hts i_X0_canSwitchToMore_X0 hown hK hP 0 rfl rfl 7 (by decide) k_2 (fun _ h9 => h9) rfl dX0_canSwitchToMore_12 ?_
    refine lv_iload_n hx hb dX0_canSwitchToMore_15 rfl (lv_at hl 0 rfl) ?_
    obtain ⟨g_2, hf⟩ := x_gu hf
    refine va_iald hx hb hK hP 1 0 rfl rfl (x_gdin g_2) dX0_canSwitchToMore_16 ?_
    obtain ⟨r_3, h_3, hf⟩ := x_bi hf
    have hPc := hP.sub (ws' := []) [] rfl
    refine va_calli (va_runS (As := [.int (g0_7 (Int32.toNatClampNeg (v0_10 - (1 : Int32))))]) (rest := []) ⟨hx, hb, hml, hown, hts⟩ (c_X0_isSwitch l dC dI cyI cyZ cyJ H.size (g0_7 (Int32.toNatClampNeg (v0_10 - (1 : Int32)))) r_3 h_3) (va_cwS 1 hts gX0_canSwitchToMore_X0_isSwitch rfl rfl rfl (by decide +kernel) ⟨Nat.le_of_ble_eq_true rfl, Nat.le_of_ble_eq_true rfl⟩) (x_pS hN hK hPc) rfl rfl hl.1 rfl (lv_room (Nat.le_of_ble_eq_true rfl)) dX0_canSwitchToMore_17 ⟨Nat.le_of_ble_eq_true rfl, Nat.le_of_ble_eq_true rfl⟩) hS x_nA (x_nf hA hS) (fun q_3 u t H1 locs ht hvm hw hB hz1 hk1 hS => ?_)
    have hP := x_kp hP hk1
    clear ht hvm hB hz1 hk1 t u hPc
    generalize H1 = H at hP hS ⊢
    obtain ⟨hw, b_3⟩ := hw
    obtain rfl := hw.symm
    refine lv_if_eq (tgt := 45) hx hb dX0_canSwitchToMore_20 (by decide) (fun c_4 => ?_) (fun c_4 => ?_)
    · replace hf := x_ip c_4 hf
      refine lv_iconst (v := 0) hx hb dX0_canSwitchToMore_45 (by decide) ?_
      obtain rfl := Option.some.inj hf
      exact W.zret (ty := .boolean) hx hb hr rfl (fun t ht hW => ⟨⟨_, (), rfl, ⟨rfl, rfl⟩, trivial⟩, hS.F ht⟩) hS.2.2 dX0_canSwitchToMore_46
    · replace hf := x_in c_4 hf
      refine lv_aload_n hx hb dX0_canSwitchToMore_23 rfl (lv_at hl 1 rfl) ?_
      refine va_get (D := (dC, dI)) (ci := 0) (v := .ref a0_13) (C := RX0) (T := TX0) (N := 17) hx hb hts i_X0_canSwitchToMore_X0 hown hK hP 0 rfl rfl 13 (by decide) k_3 (fun _ h9 => h9) rfl dX0_canSwitchToMore_24 ?_
      refine lv_iload_n hx hb dX0_canSwitchToMore_27 rfl (lv_at hl 0 rfl) ?_
      obtain ⟨g_5, hf⟩ := x_gu hf
      refine va_iald hx hb hK hP 3 0 rfl rfl (x_gdin g_5) dX0_canSwitchToMore_28 ?_
      refine lv_aload_n hx hb dX0_canSwitchToMore_29 rfl (lv_at hl 1 rfl) ?_
      refine va_get (D := (dC, dI)) (ci := 0) (v := .ref a0_12) (C := RX0) (T := TX0) (N := 17) hx hb hts i_X0_canSwitchToMore_X0 hown hK hP 0 rfl rfl 12 (by decide) k_4 (fun _ h9 => h9) rfl dX0_canSwitchToMore_30 ?_
      refine lv_iload_n hx hb dX0_canSwitchToMore_33 rfl (lv_at hl 0 rfl) ?_
      obtain ⟨g_6, hf⟩ := x_gu hf
      refine va_iald hx hb hK hP 2 0 rfl rfl (x_gdin g_6) dX0_canSwitchToMore_34 ?_
      refine lv_isub hx hb dX0_canSwitchToMore_35 ?_
      refine lv_bipush (v := 50) hx hb dX0_canSwitchToMore_36 (by decide) ?_
      refine lv_icmp_ge (tgt := 45) hx hb dX0_canSwitchToMore_38 (by decide) (fun c_7 => ?_) (fun c_7 => ?_)
      · replace hf := x_ip c_7 hf
        refine lv_iconst (v := 0) hx hb dX0_canSwitchToMore_45 (by decide) ?_
        obtain rfl := Option.some.inj hf
        exact W.zret (ty := .boolean) hx hb hr rfl (fun t ht hW => ⟨⟨_, (), rfl, ⟨rfl, rfl⟩, trivial⟩, hS.F ht⟩) hS.2.2 dX0_canSwitchToMore_46
      · replace hf := x_in c_7 hf
        refine lv_iconst (v := 1) hx hb dX0_canSwitchToMore_41 (by decide) ?_
        refine lv_goto (tgt := 46) hx hb dX0_canSwitchToMore_42 (by decide) ?_
        obtain rfl := Option.some.inj hf
        exact W.zret (ty := .boolean) hx hb hr rfl (fun t ht hW => ⟨⟨_, (), rfl, ⟨rfl, rfl⟩, trivial⟩, hS.F ht⟩) hS.2.2 dX0_canSwitchToMore_46

def f_X0_switchToMore (v0_10 : Int32) (g0_11 : Nat → Int32) (n0_11 : Nat) (g0_12 : Nat → Int32) (g0_13 : Nat → Int32) (p1 : Int32) : Option (Int32 × (Nat → Int32) × Nat × (Nat → Int32) × Nat × Nat) := if x_gd (v0_10 - (1 : Int32)) 1000 = true then if (g0_13 (Int32.toNatClampNeg (v0_10 - (1 : Int32)))) < (Int32.ofNat n0_11) then if x_gd (g0_13 (Int32.toNatClampNeg (v0_10 - (1 : Int32)))) n0_11 = true then if x_gd (v0_10 - (1 : Int32)) 1000 = true then if x_gd (v0_10 - (1 : Int32)) 1000 = true then some (((g0_13 (Int32.toNatClampNeg (v0_10 - (1 : Int32)))) + (1 : Int32)) - (g0_12 (Int32.toNatClampNeg (v0_10 - (1 : Int32)))), upd g0_11 (Int32.toNatClampNeg (g0_13 (Int32.toNatClampNeg (v0_10 - (1 : Int32))))) p1, n0_11, upd g0_13 (Int32.toNatClampNeg (v0_10 - (1 : Int32))) ((g0_13 (Int32.toNatClampNeg (v0_10 - (1 : Int32)))) + (1 : Int32)), 0, 0) else none else none else none else if x_ng n0_11 ((2 : Int32) * (Int32.ofNat n0_11)) = true then (if x_gd (g0_13 (Int32.toNatClampNeg (v0_10 - (1 : Int32)))) (Int32.toNatClampNeg ((2 : Int32) * (Int32.ofNat n0_11))) = true then if x_gd (v0_10 - (1 : Int32)) 1000 = true then if x_gd (v0_10 - (1 : Int32)) 1000 = true then some (((g0_13 (Int32.toNatClampNeg (v0_10 - (1 : Int32)))) + (1 : Int32)) - (g0_12 (Int32.toNatClampNeg (v0_10 - (1 : Int32)))), upd (va_cpy g0_11 x_z0 (Int32.toNatClampNeg 0) (Int32.toNatClampNeg 0) (Int32.toNatClampNeg (Int32.ofNat n0_11))) (Int32.toNatClampNeg (g0_13 (Int32.toNatClampNeg (v0_10 - (1 : Int32))))) p1, Int32.toNatClampNeg ((2 : Int32) * (Int32.ofNat n0_11)), upd g0_13 (Int32.toNatClampNeg (v0_10 - (1 : Int32))) ((g0_13 (Int32.toNatClampNeg (v0_10 - (1 : Int32)))) + (1 : Int32)), 0, 0) else none else none else none) >>= (fun Z_7 => some (Z_7.1, Z_7.2.1, Z_7.2.2.1, Z_7.2.2.2.1, Z_7.2.2.2.2.1 + 1, Z_7.2.2.2.2.2 + (Int32.toNatClampNeg ((2 : Int32) * (Int32.ofNat n0_11))))) else none else none
theorem i_X0_switchToMore_X0 : ∀ w ∈ wsX00, w ∈ wsX0_switchToMore := fun _ h => List.mem_cons_of_mem _ (List.mem_append_right _ h)
set_option maxHeartbeats 40000000 in
set_option maxRecDepth 100000 in
theorem c_X0_switchToMore (l : Launch) (dC : Nat → ClassId) (dI : Nat → Nat → Nat) (cyI cyZ cyJ : ClassId) (sz : Nat) (o0 : Nat) (v0_0 : Int32) (v0_1 : Int32) (v0_2 : Int32) (v0_3 : Int32) (v0_4 : Int32) (a0_5 : Nat) (v0_6 : Int32) (a0_7 : Nat) (a0_8 : Nat) (a0_9 : Nat) (v0_10 : Int32) (a0_11 : Nat) (a0_12 : Nat) (a0_13 : Nat) (a0_14 : Nat) (v0_15 : Int32) (a0_16 : Nat) (g0_11 : Nat → Int32) (n0_11 : Nat) (g0_12 : Nat → Int32) (g0_13 : Nat → Int32) (p1 : Int32) (R : Int32 × (Nat → Int32) × Nat × (Nat → Int32) × Nat × Nat) (hf : f_X0_switchToMore v0_10 g0_11 n0_11 g0_12 g0_13 p1 = some R) : Met l yX0_switchToMore wsX0_switchToMore ({ frames := 2, cells := R.2.2.2.2.1, slots := R.2.2.2.2.2, locals := 83 }) (va_Pc [.ref o0, .int p1] (x_PreD (dC, dI) (x_T cyI cyZ cyJ) [(o0, .inr (0, [.int v0_0, .int v0_1, .int v0_2, .int v0_3, .int v0_4, .ref a0_5, .int v0_6, .ref a0_7, .ref a0_8, .ref a0_9, .int v0_10, .ref a0_11, .ref a0_12, .ref a0_13, .ref a0_14, .int v0_15, .ref a0_16])), (a0_11, .inl (cyI, n0_11, .inl g0_11)), (a0_12, .inl (cyI, 1000, .inl g0_12)), (a0_13, .inl (cyI, 1000, .inl g0_13))] sz)) (va_Qi (fun (r : Int32) (_ : Unit) => r = R.1) (fun (_ : Unit) (t : State) => ∃ (a0_11_9 : Nat), va_P (dC, dI) vwCl [(o0, .inr (0, [.int v0_0, .int v0_1, .int v0_2, .int v0_3, .int v0_4, .ref a0_5, .int v0_6, .ref a0_7, .ref a0_8, .ref a0_9, .int v0_10, .ref a0_11_9, .ref a0_12, .ref a0_13, .ref a0_14, .int v0_15, .ref a0_16])), (a0_11_9, .inl (cyI, R.2.2.1, .inl R.2.1)), (a0_12, .inl (cyI, 1000, .inl g0_12)), (a0_13, .inl (cyI, 1000, .inl R.2.2.2.1))] t.heap ∧ va_K (dC, dI) vwCl (x_T cyI cyZ cyJ) t ∧ va_D (va_A [(o0, .inr (0, [.int v0_0, .int v0_1, .int v0_2, .int v0_3, .int v0_4, .ref a0_5, .int v0_6, .ref a0_7, .ref a0_8, .ref a0_9, .int v0_10, .ref a0_11, .ref a0_12, .ref a0_13, .ref a0_14, .int v0_15, .ref a0_16])), (a0_11, .inl (cyI, n0_11, .inl g0_11)), (a0_12, .inl (cyI, 1000, .inl g0_12)), (a0_13, .inl (cyI, 1000, .inl g0_13))] sz) [(o0, .inr (0, [.int v0_0, .int v0_1, .int v0_2, .int v0_3, .int v0_4, .ref a0_5, .int v0_6, .ref a0_7, .ref a0_8, .ref a0_9, .int v0_10, .ref a0_11_9, .ref a0_12, .ref a0_13, .ref a0_14, .int v0_15, .ref a0_16])), (a0_11_9, .inl (cyI, R.2.2.1, .inl R.2.1)), (a0_12, .inl (cyI, 1000, .inl g0_12)), (a0_13, .inl (cyI, 1000, .inl R.2.2.2.1))]) (va_A [(o0, .inr (0, [.int v0_0, .int v0_1, .int v0_2, .int v0_3, .int v0_4, .ref a0_5, .int v0_6, .ref a0_7, .ref a0_8, .ref a0_9, .int v0_10, .ref a0_11, .ref a0_12, .ref a0_13, .ref a0_14, .int v0_15, .ref a0_16])), (a0_11, .inl (cyI, n0_11, .inl g0_11)), (a0_12, .inl (cyI, 1000, .inl g0_12)), (a0_13, .inl (cyI, 1000, .inl g0_13))] sz)) (R.2.2.2.2.1) (R.2.2.2.2.2) (va_A [(o0, .inr (0, [.int v0_0, .int v0_1, .int v0_2, .int v0_3, .int v0_4, .ref a0_5, .int v0_6, .ref a0_7, .ref a0_8, .ref a0_9, .int v0_10, .ref a0_11, .ref a0_12, .ref a0_13, .ref a0_14, .int v0_15, .ref a0_16])), (a0_11, .inl (cyI, n0_11, .inl g0_11)), (a0_12, .inl (cyI, 1000, .inl g0_12)), (a0_13, .inl (cyI, 1000, .inl g0_13))] sz) := by
  refine Met.ofW (cc := cX0_switchToMore) (maxL := 4) (ret := (some .int)) (by decide) rfl ?_
  intro p e s m args below meth c s₁ B hml hv
  obtain ⟨rfl, ⟨hsz, hP, hK, hN⟩, hD0⟩ := hv
  have hx := B.exec
  have hb := B.bytes
  have hr := B.returns
  have hts := atoms_spec (ws := wsX0_switchToMore) B.pre
  have hown : s.vm.findClass RX0 = some m.cls := findClass_of_methodNamed B.named
  have k_1 := hts (.fieldLink RX0 59 "FlowJudge$Code" "count" "I") (by decide +kernel)
  have k_2 := hts (.fieldLink RX0 34 "FlowJudge$Code" "upToSwitched" "[I") (by decide +kernel)
  have k_3 := hts (.fieldLink RX0 28 "FlowJudge$Code" "switched" "[I") (by decide +kernel)
  have k_4 := hts (.fieldLink RX0 31 "FlowJudge$Code" "firstSwitched" "[I") (by decide +kernel)
  subst hsz
  have hD := hD0.self (sz := s.heap.size)
  generalize hAe : va_A [(o0, .inr (0, [.int v0_0, .int v0_1, .int v0_2, .int v0_3, .int v0_4, .ref a0_5, .int v0_6, .ref a0_7, .ref a0_8, .ref a0_9, .int v0_10, .ref a0_11, .ref a0_12, .ref a0_13, .ref a0_14, .int v0_15, .ref a0_16])), (a0_11, .inl (cyI, n0_11, .inl g0_11)), (a0_12, .inl (cyI, 1000, .inl g0_12)), (a0_13, .inl (cyI, 1000, .inl g0_13))] s.heap.size = A at hD ⊢
  have hA : ∀ q : Nat, s.heap.size ≤ q → A q := fun q h => by rw [← hAe]; exact Or.inr h
  have hP : va_P (dC, dI) vwCl [(o0, .inr (0, [.int v0_0, .int v0_1, .int v0_2, .int v0_3, .int v0_4, .ref a0_5, .int v0_6, .ref a0_7, .ref a0_8, .ref a0_9, .int v0_10, .ref a0_11, .ref a0_12, .ref a0_13, .ref a0_14, .int v0_15, .ref a0_16])), (a0_11, .inl (cyI, n0_11, .inl g0_11)), (a0_12, .inl (cyI, 1000, .inl g0_12)), (a0_13, .inl (cyI, 1000, .inl g0_13))] s.heap := hP
  have hl := lv_entry ([.ref o0, .int p1]) (n := 4) (Nat.le_of_ble_eq_true rfl)
  rw [lg_entry_eq]
  generalize (lg_sl ([.ref o0, .int p1]) ++ List.replicate (4 - (lg_sl ([.ref o0, .int p1])).length) Slot.unset).toArray = ls at hl ⊢
  have hl : lv_has ls 4 [(0, .ref o0), (1, .int p1)] := hl
  obtain ⟨H, hH⟩ : ∃ z, z = s.heap := ⟨_, rfl⟩
  refine x_here hH ?_
  have hP : va_P (dC, dI) vwCl [(o0, .inr (0, [.int v0_0, .int v0_1, .int v0_2, .int v0_3, .int v0_4, .ref a0_5, .int v0_6, .ref a0_7, .ref a0_8, .ref a0_9, .int v0_10, .ref a0_11, .ref a0_12, .ref a0_13, .ref a0_14, .int v0_15, .ref a0_16])), (a0_11, .inl (cyI, n0_11, .inl g0_11)), (a0_12, .inl (cyI, 1000, .inl g0_12)), (a0_13, .inl (cyI, 1000, .inl g0_13))] H := by rw [hH]; exact hP
  have hS : va_S A s.heap H [] := by rw [hH]; exact va_S.rf
  clear hH
  obtain ⟨locs, hlo⟩ : ∃ z : List Loc, z = [] := ⟨_, rfl⟩
  refine x_herl hlo ?_
  have hS : va_S A s.heap H locs := by rw [hlo]; exact hS
  clear hlo
  unfold f_X0_switchToMore at hf
  obtain ⟨Z_0, hZ0⟩ : ∃ z, z = R := ⟨_, rfl⟩
  rw [← hZ0] at hf
  have hR : R = (Z_0.1, Z_0.2.1, Z_0.2.2.1, Z_0.2.2.2.1, Z_0.2.2.2.2.1 + 0, Z_0.2.2.2.2.2 + 0) := by subst hZ0; rfl
  clear hZ0
  have hRc := congrArg (fun z => z.2.2.2.2.1) hR
  have hRs := congrArg (fun z => z.2.2.2.2.2) hR
  dsimp only at hRc hRs
  refine lv_aload_n hx hb dX0_switchToMore_0 rfl (lv_at hl 0 rfl) ?_
  refine va_get (D := (dC, dI)) (ci := 0) (v := .int v0_10) (C := RX0) (T := TX0) (N := 17) hx hb hts i_X0_switchToMore_X0 hown hK hP 0 rfl rfl 10 (by decide) k_1 (fun _ h9 => h9) rfl dX0_switchToMore_1 ?_
  refine lv_iconst (v := 1) hx hb dX0_switchToMore_4 (by decide) ?_
  refine lv_isub hx hb dX0_switchToMore_5 ?_
  refine lv_istore_n (lv' := [(2, .int (v0_10 - (1 : Int32))), (0, .ref o0), (1, .int p1)]) hx hb dX0_switchToMore_6 rfl hl (by decide) rfl (fun ls hl => ?_)
  refine lv_aload_n hx hb dX0_switchToMore_7 rfl (lv_at hl 1 rfl) ?_
  refine va_get (D := (dC, dI)) (ci := 0) (v := .ref a0_13) (C := RX0) (T := TX0) (N := 17) hx hb hts i_X0_switchToMore_X0 hown hK hP 0 rfl rfl 13 (by decide) k_2 (fun _ h9 => h9) rfl dX0_switchToMore_8 ?_
  refine lv_iload_n hx hb dX0_switchToMore_11 rfl (lv_at hl 0 rfl) ?_
  replace hf := x_gu hf
  obtain ⟨g_1, hf⟩ := hf
  refine va_iald hx hb hK hP 3 0 rfl rfl (x_gdin g_1) dX0_switchToMore_12 ?_
  refine lv_istore_n (lv' := [(3, .int (g0_13 (Int32.toNatClampNeg (v0_10 - (1 : Int32))))), (2, .int (v0_10 - (1 : Int32))), (0, .ref o0), (1, .int p1)]) hx hb dX0_switchToMore_13 rfl hl (by decide) rfl (fun ls hl => ?_)
  refine lv_iload_n hx hb dX0_switchToMore_14 rfl (lv_at hl 0 rfl) ?_
  refine lv_aload_n hx hb dX0_switchToMore_15 rfl (lv_at hl 2 rfl) ?_
  refine va_get (D := (dC, dI)) (ci := 0) (v := .ref a0_11) (C := RX0) (T := TX0) (N := 17) hx hb hts i_X0_switchToMore_X0 hown hK hP 0 rfl rfl 11 (by decide) k_3 (fun _ h9 => h9) rfl dX0_switchToMore_16 ?_
  refine va_alen (v := (Int32.ofNat n0_11)) hx hb hK hP 1 0 rfl rfl rfl dX0_switchToMore_19 ?_
  refine lv_icmp_lt (tgt := 41) hx hb dX0_switchToMore_20 (by decide) (fun c_2 => ?_) (fun c_2 => ?_)
  · replace hf := x_ip c_2 hf
    refine lv_aload_n hx hb dX0_switchToMore_41 rfl (lv_at hl 2 rfl) ?_
    refine va_get (D := (dC, dI)) (ci := 0) (v := .ref a0_11) (C := RX0) (T := TX0) (N := 17) hx hb hts i_X0_switchToMore_X0 hown hK hP 0 rfl rfl 11 (by decide) k_3 (fun _ h9 => h9) rfl dX0_switchToMore_42 ?_
    refine lv_iload_n hx hb dX0_switchToMore_45 rfl (lv_at hl 0 rfl) ?_
    refine lv_iload_n hx hb dX0_switchToMore_46 rfl (lv_at hl 3 rfl) ?_
    replace hf := x_gu hf
    obtain ⟨g_3, hf⟩ := hf
    refine va_iast hx hb hK hP hD hS 1 0 rfl rfl (x_gdin g_3) dX0_switchToMore_47 (fun H locs hP hD hS => ?_)
    have hP : va_P (dC, dI) vwCl [(o0, .inr (0, [.int v0_0, .int v0_1, .int v0_2, .int v0_3, .int v0_4, .ref a0_5, .int v0_6, .ref a0_7, .ref a0_8, .ref a0_9, .int v0_10, .ref a0_11, .ref a0_12, .ref a0_13, .ref a0_14, .int v0_15, .ref a0_16])), (a0_11, .inl (cyI, n0_11, .inl (upd g0_11 (Int32.toNatClampNeg (g0_13 (Int32.toNatClampNeg (v0_10 - (1 : Int32))))) p1))), (a0_12, .inl (cyI, 1000, .inl g0_12)), (a0_13, .inl (cyI, 1000, .inl g0_13))] H := hP
    have hD : va_D A [(o0, .inr (0, [.int v0_0, .int v0_1, .int v0_2, .int v0_3, .int v0_4, .ref a0_5, .int v0_6, .ref a0_7, .ref a0_8, .ref a0_9, .int v0_10, .ref a0_11, .ref a0_12, .ref a0_13, .ref a0_14, .int v0_15, .ref a0_16])), (a0_11, .inl (cyI, n0_11, .inl (upd g0_11 (Int32.toNatClampNeg (g0_13 (Int32.toNatClampNeg (v0_10 - (1 : Int32))))) p1))), (a0_12, .inl (cyI, 1000, .inl g0_12)), (a0_13, .inl (cyI, 1000, .inl g0_13))] := hD
    refine lv_aload_n hx hb dX0_switchToMore_48 rfl (lv_at hl 2 rfl) ?_
    refine va_get (D := (dC, dI)) (ci := 0) (v := .ref a0_13) (C := RX0) (T := TX0) (N := 17) hx hb hts i_X0_switchToMore_X0 hown hK hP 0 rfl rfl 13 (by decide) k_2 (fun _ h9 => h9) rfl dX0_switchToMore_49 ?_
    refine lv_iload_n hx hb dX0_switchToMore_52 rfl (lv_at hl 1 rfl) ?_
    refine lv_iload_n hx hb dX0_switchToMore_53 rfl (lv_at hl 0 rfl) ?_
    refine lv_iconst (v := 1) hx hb dX0_switchToMore_54 (by decide) ?_
    refine lv_iadd hx hb dX0_switchToMore_55 ?_
    replace hf := x_gu hf
    obtain ⟨g_4, hf⟩ := hf
    refine va_iast hx hb hK hP hD hS 3 0 rfl rfl (x_gdin g_4) dX0_switchToMore_56 (fun H locs hP hD hS => ?_)
    have hP : va_P (dC, dI) vwCl [(o0, .inr (0, [.int v0_0, .int v0_1, .int v0_2, .int v0_3, .int v0_4, .ref a0_5, .int v0_6, .ref a0_7, .ref a0_8, .ref a0_9, .int v0_10, .ref a0_11, .ref a0_12, .ref a0_13, .ref a0_14, .int v0_15, .ref a0_16])), (a0_11, .inl (cyI, n0_11, .inl (upd g0_11 (Int32.toNatClampNeg (g0_13 (Int32.toNatClampNeg (v0_10 - (1 : Int32))))) p1))), (a0_12, .inl (cyI, 1000, .inl g0_12)), (a0_13, .inl (cyI, 1000, .inl (upd g0_13 (Int32.toNatClampNeg (v0_10 - (1 : Int32))) ((g0_13 (Int32.toNatClampNeg (v0_10 - (1 : Int32)))) + (1 : Int32)))))] H := hP
    have hD : va_D A [(o0, .inr (0, [.int v0_0, .int v0_1, .int v0_2, .int v0_3, .int v0_4, .ref a0_5, .int v0_6, .ref a0_7, .ref a0_8, .ref a0_9, .int v0_10, .ref a0_11, .ref a0_12, .ref a0_13, .ref a0_14, .int v0_15, .ref a0_16])), (a0_11, .inl (cyI, n0_11, .inl (upd g0_11 (Int32.toNatClampNeg (g0_13 (Int32.toNatClampNeg (v0_10 - (1 : Int32))))) p1))), (a0_12, .inl (cyI, 1000, .inl g0_12)), (a0_13, .inl (cyI, 1000, .inl (upd g0_13 (Int32.toNatClampNeg (v0_10 - (1 : Int32))) ((g0_13 (Int32.toNatClampNeg (v0_10 - (1 : Int32)))) + (1 : Int32)))))] := hD
    refine lv_iload_n hx hb dX0_switchToMore_57 rfl (lv_at hl 0 rfl) ?_
    refine lv_iconst (v := 1) hx hb dX0_switchToMore_58 (by decide) ?_
    refine lv_iadd hx hb dX0_switchToMore_59 ?_
    refine lv_aload_n hx hb dX0_switchToMore_60 rfl (lv_at hl 2 rfl) ?_
    refine va_get (D := (dC, dI)) (ci := 0) (v := .ref a0_12) (C := RX0) (T := TX0) (N := 17) hx hb hts i_X0_switchToMore_X0 hown hK hP 0 rfl rfl 12 (by decide) k_4 (fun _ h9 => h9) rfl dX0_switchToMore_61 ?_
    refine lv_iload_n hx hb dX0_switchToMore_64 rfl (lv_at hl 1 rfl) ?_
    replace hf := x_gu hf
    obtain ⟨g_5, hf⟩ := hf
    refine va_iald hx hb hK hP 2 0 rfl rfl (x_gdin g_5) dX0_switchToMore_65 ?_
    refine lv_isub hx hb dX0_switchToMore_66 ?_
    obtain rfl := Option.some.inj hf
    dsimp only at hR
    clear hRc hRs
    subst hR
    have hP9 := hP.sub (ws' := [(o0, .inr (0, [.int v0_0, .int v0_1, .int v0_2, .int v0_3, .int v0_4, .ref a0_5, .int v0_6, .ref a0_7, .ref a0_8, .ref a0_9, .int v0_10, .ref a0_11, .ref a0_12, .ref a0_13, .ref a0_14, .int v0_15, .ref a0_16])), (a0_11, .inl (cyI, n0_11, .inl (upd g0_11 (Int32.toNatClampNeg (g0_13 (Int32.toNatClampNeg (v0_10 - (1 : Int32))))) p1))), (a0_12, .inl (cyI, 1000, .inl g0_12)), (a0_13, .inl (cyI, 1000, .inl (upd g0_13 (Int32.toNatClampNeg (v0_10 - (1 : Int32))) ((g0_13 (Int32.toNatClampNeg (v0_10 - (1 : Int32)))) + (1 : Int32)))))]) [0, 1, 2, 3] rfl
    have hD9 := hD.sub (ws' := [(o0, .inr (0, [.int v0_0, .int v0_1, .int v0_2, .int v0_3, .int v0_4, .ref a0_5, .int v0_6, .ref a0_7, .ref a0_8, .ref a0_9, .int v0_10, .ref a0_11, .ref a0_12, .ref a0_13, .ref a0_14, .int v0_15, .ref a0_16])), (a0_11, .inl (cyI, n0_11, .inl (upd g0_11 (Int32.toNatClampNeg (g0_13 (Int32.toNatClampNeg (v0_10 - (1 : Int32))))) p1))), (a0_12, .inl (cyI, 1000, .inl g0_12)), (a0_13, .inl (cyI, 1000, .inl (upd g0_13 (Int32.toNatClampNeg (v0_10 - (1 : Int32))) ((g0_13 (Int32.toNatClampNeg (v0_10 - (1 : Int32)))) + (1 : Int32)))))]) [0, 1, 2, 3] (by decide) rfl
    refine W.widen (k := 0 + 0) (n := 0 + 0) (by omega) (by omega) ?_
    exact W.iret hx hb hr (fun t ht hW => ⟨⟨_, (), rfl, rfl, a0_11, by rw [ht]; exact hP9, va_K.moved hW.alike hK, hD9⟩, hS.F ht⟩) hS.2.2 dX0_switchToMore_67
  · replace hf := x_in c_2 hf
    refine lv_aload_n hx hb dX0_switchToMore_23 rfl (lv_at hl 2 rfl) ?_
    refine lv_aload_n hx hb dX0_switchToMore_24 rfl (lv_at hl 2 rfl) ?_
    refine va_get (D := (dC, dI)) (ci := 0) (v := .ref a0_11) (C := RX0) (T := TX0) (N := 17) hx hb hts i_X0_switchToMore_X0 hown hK hP 0 rfl rfl 11 (by decide) k_3 (fun _ h9 => h9) rfl dX0_switchToMore_25 ?_
    refine lv_iconst (v := 2) hx hb dX0_switchToMore_28 (by decide) ?_
    refine lv_aload_n hx hb dX0_switchToMore_29 rfl (lv_at hl 2 rfl) ?_
    refine va_get (D := (dC, dI)) (ci := 0) (v := .ref a0_11) (C := RX0) (T := TX0) (N := 17) hx hb hts i_X0_switchToMore_X0 hown hK hP 0 rfl rfl 11 (by decide) k_3 (fun _ h9 => h9) rfl dX0_switchToMore_30 ?_
    refine va_alen (v := (Int32.ofNat n0_11)) hx hb hK hP 1 0 rfl rfl rfl dX0_switchToMore_33 ?_
    refine lv_imul hx hb dX0_switchToMore_34 ?_
    replace hf := x_gu hf
    obtain ⟨g_6, hf⟩ := hf
    replace hf := x_bi hf
    obtain ⟨Z_7, hf, he⟩ := hf
    obtain rfl := Option.some.inj he
    dsimp only at hR
    clear hRc hRs
    have hRc := congrArg (fun z => z.2.2.2.2.1) hR
    have hRs := congrArg (fun z => z.2.2.2.2.2) hR
    dsimp only at hRc hRs
    have hPc := hP.sub (ws' := [(a0_11, .inl (cyI, n0_11, .inl g0_11))]) [1] rfl
    have hDc := hD.sub (ws' := [(a0_11, .inl (cyI, n0_11, .inl g0_11))]) [1] (by decide) rfl
    have hFc := va_free (wc := [(a0_11, .inl (cyI, n0_11, .inl g0_11))]) hD hS hA [1] rfl
    refine va_callr (va_runS (As := [.ref a0_11, .int ((2 : Int32) * (Int32.ofNat n0_11))]) (rest := [.ref o0]) ⟨hx, hb, hml, hown, hts⟩ (c_J7_copyOf l dC dI cyI cyZ cyJ H.size a0_11 n0_11 g0_11 ((2 : Int32) * (Int32.ofNat n0_11)) g_6) (va_cwS 2 hts gX0_switchToMore_J7_copyOf_59c91 rfl rfl rfl (by decide +kernel) ⟨Nat.le_of_ble_eq_true rfl, Nat.le_of_ble_eq_true rfl⟩) (x_pSD hN hK hPc hDc) rfl rfl hl.1 rfl (lv_room (Nat.le_of_ble_eq_true rfl)) dX0_switchToMore_35 ⟨by dsimp only [headSpec]; omega, by dsimp only [headSpec]; omega⟩) hS (fun q _ h => hFc q h) hFc (fun u q35_8 t H1 locs ht hvm hw hB hz1 hk1 hS => ?_)
    obtain ⟨hP1, hK1, hD1⟩ := hB
    rw [ht] at hP1
    obtain ⟨hP, hD⟩ := va_join (wr := [(o0, .inr (0, [.int v0_0, .int v0_1, .int v0_2, .int v0_3, .int v0_4, .ref a0_5, .int v0_6, .ref a0_7, .ref a0_8, .ref a0_9, .int v0_10, .ref a0_11, .ref a0_12, .ref a0_13, .ref a0_14, .int v0_15, .ref a0_16])), (a0_12, .inl (cyI, 1000, .inl g0_12)), (a0_13, .inl (cyI, 1000, .inl g0_13))]) (w1 := [(a0_11, .inl (cyI, n0_11, .inl g0_11)), (q35_8, .inl (cyI, (Int32.toNatClampNeg ((2 : Int32) * (Int32.ofNat n0_11))), .inl (va_cpy g0_11 x_z0 (Int32.toNatClampNeg 0) (Int32.toNatClampNeg 0) (Int32.toNatClampNeg (Int32.ofNat n0_11)))))]) hP hD [1] [0, 2, 3] rfl rfl (by decide) (by decide) hk1 hFc hP1 hD1
    clear hz1 hk1 hPc hDc hFc hP1 hK1 hD1 ht hvm t u
    generalize H1 = H at hP hS ⊢
    have hP : va_P (dC, dI) vwCl [(o0, .inr (0, [.int v0_0, .int v0_1, .int v0_2, .int v0_3, .int v0_4, .ref a0_5, .int v0_6, .ref a0_7, .ref a0_8, .ref a0_9, .int v0_10, .ref a0_11, .ref a0_12, .ref a0_13, .ref a0_14, .int v0_15, .ref a0_16])), (a0_12, .inl (cyI, 1000, .inl g0_12)), (a0_13, .inl (cyI, 1000, .inl g0_13)), (a0_11, .inl (cyI, n0_11, .inl g0_11)), (q35_8, .inl (cyI, (Int32.toNatClampNeg ((2 : Int32) * (Int32.ofNat n0_11))), .inl (va_cpy g0_11 x_z0 (Int32.toNatClampNeg 0) (Int32.toNatClampNeg 0) (Int32.toNatClampNeg (Int32.ofNat n0_11)))))] H := hP
    have hD : va_D A [(o0, .inr (0, [.int v0_0, .int v0_1, .int v0_2, .int v0_3, .int v0_4, .ref a0_5, .int v0_6, .ref a0_7, .ref a0_8, .ref a0_9, .int v0_10, .ref a0_11, .ref a0_12, .ref a0_13, .ref a0_14, .int v0_15, .ref a0_16])), (a0_12, .inl (cyI, 1000, .inl g0_12)), (a0_13, .inl (cyI, 1000, .inl g0_13)), (a0_11, .inl (cyI, n0_11, .inl g0_11)), (q35_8, .inl (cyI, (Int32.toNatClampNeg ((2 : Int32) * (Int32.ofNat n0_11))), .inl (va_cpy g0_11 x_z0 (Int32.toNatClampNeg 0) (Int32.toNatClampNeg 0) (Int32.toNatClampNeg (Int32.ofNat n0_11)))))] := hD
    refine va_put (D := (dC, dI)) (ci := 0) (v := .ref q35_8) (ty := .array .int) (C := RX0) (T := TX0) (N := 17) hx hb hts i_X0_switchToMore_X0 tyX0 tyX0_ok nmX0 hown hK hP hD hS 0 rfl rfl 11 (by decide) k_3 (fun _ h9 => h9) rfl (by decide +kernel) rfl rfl (Nat.le_of_ble_eq_true rfl) dX0_switchToMore_38 (fun H locs hP hD hS => ?_)
    have hP : va_P (dC, dI) vwCl [(o0, .inr (0, [.int v0_0, .int v0_1, .int v0_2, .int v0_3, .int v0_4, .ref a0_5, .int v0_6, .ref a0_7, .ref a0_8, .ref a0_9, .int v0_10, .ref q35_8, .ref a0_12, .ref a0_13, .ref a0_14, .int v0_15, .ref a0_16])), (a0_12, .inl (cyI, 1000, .inl g0_12)), (a0_13, .inl (cyI, 1000, .inl g0_13)), (a0_11, .inl (cyI, n0_11, .inl g0_11)), (q35_8, .inl (cyI, (Int32.toNatClampNeg ((2 : Int32) * (Int32.ofNat n0_11))), .inl (va_cpy g0_11 x_z0 (Int32.toNatClampNeg 0) (Int32.toNatClampNeg 0) (Int32.toNatClampNeg (Int32.ofNat n0_11)))))] H := hP
    have hD : va_D A [(o0, .inr (0, [.int v0_0, .int v0_1, .int v0_2, .int v0_3, .int v0_4, .ref a0_5, .int v0_6, .ref a0_7, .ref a0_8, .ref a0_9, .int v0_10, .ref q35_8, .ref a0_12, .ref a0_13, .ref a0_14, .int v0_15, .ref a0_16])), (a0_12, .inl (cyI, 1000, .inl g0_12)), (a0_13, .inl (cyI, 1000, .inl g0_13)), (a0_11, .inl (cyI, n0_11, .inl g0_11)), (q35_8, .inl (cyI, (Int32.toNatClampNeg ((2 : Int32) * (Int32.ofNat n0_11))), .inl (va_cpy g0_11 x_z0 (Int32.toNatClampNeg 0) (Int32.toNatClampNeg 0) (Int32.toNatClampNeg (Int32.ofNat n0_11)))))] := hD
    refine lv_aload_n hx hb dX0_switchToMore_41 rfl (lv_at hl 2 rfl) ?_
    refine va_get (D := (dC, dI)) (ci := 0) (v := .ref q35_8) (C := RX0) (T := TX0) (N := 17) hx hb hts i_X0_switchToMore_X0 hown hK hP 0 rfl rfl 11 (by decide) k_3 (fun _ h9 => h9) rfl dX0_switchToMore_42 ?_
    refine lv_iload_n hx hb dX0_switchToMore_45 rfl (lv_at hl 0 rfl) ?_
    refine lv_iload_n hx hb dX0_switchToMore_46 rfl (lv_at hl 3 rfl) ?_
    replace hf := x_gu hf
    obtain ⟨g_9, hf⟩ := hf
    refine va_iast hx hb hK hP hD hS 4 0 rfl rfl (x_gdin g_9) dX0_switchToMore_47 (fun H locs hP hD hS => ?_)
    have hP : va_P (dC, dI) vwCl [(o0, .inr (0, [.int v0_0, .int v0_1, .int v0_2, .int v0_3, .int v0_4, .ref a0_5, .int v0_6, .ref a0_7, .ref a0_8, .ref a0_9, .int v0_10, .ref q35_8, .ref a0_12, .ref a0_13, .ref a0_14, .int v0_15, .ref a0_16])), (a0_12, .inl (cyI, 1000, .inl g0_12)), (a0_13, .inl (cyI, 1000, .inl g0_13)), (a0_11, .inl (cyI, n0_11, .inl g0_11)), (q35_8, .inl (cyI, (Int32.toNatClampNeg ((2 : Int32) * (Int32.ofNat n0_11))), .inl (upd (va_cpy g0_11 x_z0 (Int32.toNatClampNeg 0) (Int32.toNatClampNeg 0) (Int32.toNatClampNeg (Int32.ofNat n0_11))) (Int32.toNatClampNeg (g0_13 (Int32.toNatClampNeg (v0_10 - (1 : Int32))))) p1)))] H := hP
    have hD : va_D A [(o0, .inr (0, [.int v0_0, .int v0_1, .int v0_2, .int v0_3, .int v0_4, .ref a0_5, .int v0_6, .ref a0_7, .ref a0_8, .ref a0_9, .int v0_10, .ref q35_8, .ref a0_12, .ref a0_13, .ref a0_14, .int v0_15, .ref a0_16])), (a0_12, .inl (cyI, 1000, .inl g0_12)), (a0_13, .inl (cyI, 1000, .inl g0_13)), (a0_11, .inl (cyI, n0_11, .inl g0_11)), (q35_8, .inl (cyI, (Int32.toNatClampNeg ((2 : Int32) * (Int32.ofNat n0_11))), .inl (upd (va_cpy g0_11 x_z0 (Int32.toNatClampNeg 0) (Int32.toNatClampNeg 0) (Int32.toNatClampNeg (Int32.ofNat n0_11))) (Int32.toNatClampNeg (g0_13 (Int32.toNatClampNeg (v0_10 - (1 : Int32))))) p1)))] := hD
    refine lv_aload_n hx hb dX0_switchToMore_48 rfl (lv_at hl 2 rfl) ?_
    refine va_get (D := (dC, dI)) (ci := 0) (v := .ref a0_13) (C := RX0) (T := TX0) (N := 17) hx hb hts i_X0_switchToMore_X0 hown hK hP 0 rfl rfl 13 (by decide) k_2 (fun _ h9 => h9) rfl dX0_switchToMore_49 ?_
    refine lv_iload_n hx hb dX0_switchToMore_52 rfl (lv_at hl 1 rfl) ?_
    refine lv_iload_n hx hb dX0_switchToMore_53 rfl (lv_at hl 0 rfl) ?_
    refine lv_iconst (v := 1) hx hb dX0_switchToMore_54 (by decide) ?_
    refine lv_iadd hx hb dX0_switchToMore_55 ?_
    replace hf := x_gu hf
    obtain ⟨g_10, hf⟩ := hf
    refine va_iast hx hb hK hP hD hS 2 0 rfl rfl (x_gdin g_10) dX0_switchToMore_56 (fun H locs hP hD hS => ?_)
    have hP : va_P (dC, dI) vwCl [(o0, .inr (0, [.int v0_0, .int v0_1, .int v0_2, .int v0_3, .int v0_4, .ref a0_5, .int v0_6, .ref a0_7, .ref a0_8, .ref a0_9, .int v0_10, .ref q35_8, .ref a0_12, .ref a0_13, .ref a0_14, .int v0_15, .ref a0_16])), (a0_12, .inl (cyI, 1000, .inl g0_12)), (a0_13, .inl (cyI, 1000, .inl (upd g0_13 (Int32.toNatClampNeg (v0_10 - (1 : Int32))) ((g0_13 (Int32.toNatClampNeg (v0_10 - (1 : Int32)))) + (1 : Int32))))), (a0_11, .inl (cyI, n0_11, .inl g0_11)), (q35_8, .inl (cyI, (Int32.toNatClampNeg ((2 : Int32) * (Int32.ofNat n0_11))), .inl (upd (va_cpy g0_11 x_z0 (Int32.toNatClampNeg 0) (Int32.toNatClampNeg 0) (Int32.toNatClampNeg (Int32.ofNat n0_11))) (Int32.toNatClampNeg (g0_13 (Int32.toNatClampNeg (v0_10 - (1 : Int32))))) p1)))] H := hP
    have hD : va_D A [(o0, .inr (0, [.int v0_0, .int v0_1, .int v0_2, .int v0_3, .int v0_4, .ref a0_5, .int v0_6, .ref a0_7, .ref a0_8, .ref a0_9, .int v0_10, .ref q35_8, .ref a0_12, .ref a0_13, .ref a0_14, .int v0_15, .ref a0_16])), (a0_12, .inl (cyI, 1000, .inl g0_12)), (a0_13, .inl (cyI, 1000, .inl (upd g0_13 (Int32.toNatClampNeg (v0_10 - (1 : Int32))) ((g0_13 (Int32.toNatClampNeg (v0_10 - (1 : Int32)))) + (1 : Int32))))), (a0_11, .inl (cyI, n0_11, .inl g0_11)), (q35_8, .inl (cyI, (Int32.toNatClampNeg ((2 : Int32) * (Int32.ofNat n0_11))), .inl (upd (va_cpy g0_11 x_z0 (Int32.toNatClampNeg 0) (Int32.toNatClampNeg 0) (Int32.toNatClampNeg (Int32.ofNat n0_11))) (Int32.toNatClampNeg (g0_13 (Int32.toNatClampNeg (v0_10 - (1 : Int32))))) p1)))] := hD
    refine lv_iload_n hx hb dX0_switchToMore_57 rfl (lv_at hl 0 rfl) ?_
    refine lv_iconst (v := 1) hx hb dX0_switchToMore_58 (by decide) ?_
    refine lv_iadd hx hb dX0_switchToMore_59 ?_
    refine lv_aload_n hx hb dX0_switchToMore_60 rfl (lv_at hl 2 rfl) ?_
    refine va_get (D := (dC, dI)) (ci := 0) (v := .ref a0_12) (C := RX0) (T := TX0) (N := 17) hx hb hts i_X0_switchToMore_X0 hown hK hP 0 rfl rfl 12 (by decide) k_4 (fun _ h9 => h9) rfl dX0_switchToMore_61 ?_
    refine lv_iload_n hx hb dX0_switchToMore_64 rfl (lv_at hl 1 rfl) ?_
    replace hf := x_gu hf
    obtain ⟨g_11, hf⟩ := hf
    refine va_iald hx hb hK hP 1 0 rfl rfl (x_gdin g_11) dX0_switchToMore_65 ?_
    refine lv_isub hx hb dX0_switchToMore_66 ?_
    obtain rfl := Option.some.inj hf
    dsimp only at hR
    clear hRc hRs
    subst hR
    have hP9 := hP.sub (ws' := [(o0, .inr (0, [.int v0_0, .int v0_1, .int v0_2, .int v0_3, .int v0_4, .ref a0_5, .int v0_6, .ref a0_7, .ref a0_8, .ref a0_9, .int v0_10, .ref q35_8, .ref a0_12, .ref a0_13, .ref a0_14, .int v0_15, .ref a0_16])), (q35_8, .inl (cyI, (Int32.toNatClampNeg ((2 : Int32) * (Int32.ofNat n0_11))), .inl (upd (va_cpy g0_11 x_z0 (Int32.toNatClampNeg 0) (Int32.toNatClampNeg 0) (Int32.toNatClampNeg (Int32.ofNat n0_11))) (Int32.toNatClampNeg (g0_13 (Int32.toNatClampNeg (v0_10 - (1 : Int32))))) p1))), (a0_12, .inl (cyI, 1000, .inl g0_12)), (a0_13, .inl (cyI, 1000, .inl (upd g0_13 (Int32.toNatClampNeg (v0_10 - (1 : Int32))) ((g0_13 (Int32.toNatClampNeg (v0_10 - (1 : Int32)))) + (1 : Int32)))))]) [0, 4, 1, 2] rfl
    have hD9 := hD.sub (ws' := [(o0, .inr (0, [.int v0_0, .int v0_1, .int v0_2, .int v0_3, .int v0_4, .ref a0_5, .int v0_6, .ref a0_7, .ref a0_8, .ref a0_9, .int v0_10, .ref q35_8, .ref a0_12, .ref a0_13, .ref a0_14, .int v0_15, .ref a0_16])), (q35_8, .inl (cyI, (Int32.toNatClampNeg ((2 : Int32) * (Int32.ofNat n0_11))), .inl (upd (va_cpy g0_11 x_z0 (Int32.toNatClampNeg 0) (Int32.toNatClampNeg 0) (Int32.toNatClampNeg (Int32.ofNat n0_11))) (Int32.toNatClampNeg (g0_13 (Int32.toNatClampNeg (v0_10 - (1 : Int32))))) p1))), (a0_12, .inl (cyI, 1000, .inl g0_12)), (a0_13, .inl (cyI, 1000, .inl (upd g0_13 (Int32.toNatClampNeg (v0_10 - (1 : Int32))) ((g0_13 (Int32.toNatClampNeg (v0_10 - (1 : Int32)))) + (1 : Int32)))))]) [0, 4, 1, 2] (by decide) rfl
    refine W.widen (k := 0 + 1 + 0) (n := 0 + (Int32.toNatClampNeg ((2 : Int32) * (Int32.ofNat n0_11))) + 0) (by omega) (by omega) ?_
    exact W.iret hx hb hr (fun t ht hW => ⟨⟨_, (), rfl, rfl, q35_8, by rw [ht]; exact hP9, va_K.moved hW.alike hK, hD9⟩, hS.F ht⟩) hS.2.2 dX0_switchToMore_67

def f_X0_enterRow (v0_15 : Int32) (g0_14 : Nat → Int32) (p1 : Int32) (p2 : Int32) (p3 : Int32) (p4 : Int32) : Option (Int32 × Int32 × (Nat → Int32)) := if x_gd ((4 : Int32) * v0_15) 200 = true then if x_gd (((4 : Int32) * v0_15) + (1 : Int32)) 200 = true then if x_gd (((4 : Int32) * v0_15) + (2 : Int32)) 200 = true then if x_gd (((4 : Int32) * v0_15) + (3 : Int32)) 200 = true then some (v0_15 + (1 : Int32), v0_15 + (1 : Int32), upd (upd (upd (upd g0_14 (Int32.toNatClampNeg ((4 : Int32) * v0_15)) p1) (Int32.toNatClampNeg (((4 : Int32) * v0_15) + (1 : Int32))) p2) (Int32.toNatClampNeg (((4 : Int32) * v0_15) + (2 : Int32))) p3) (Int32.toNatClampNeg (((4 : Int32) * v0_15) + (3 : Int32))) p4) else none else none else none else none
theorem i_X0_enterRow_X0 : ∀ w ∈ wsX00, w ∈ wsX0_enterRow := fun _ h => List.mem_cons_of_mem _ (List.mem_append_right _ h)
set_option maxHeartbeats 4000000 in
set_option maxRecDepth 100000 in
theorem c_X0_enterRow (l : Launch) (dC : Nat → ClassId) (dI : Nat → Nat → Nat) (cyI cyZ cyJ : ClassId) (sz : Nat) (o0 : Nat) (v0_0 : Int32) (v0_1 : Int32) (v0_2 : Int32) (v0_3 : Int32) (v0_4 : Int32) (a0_5 : Nat) (v0_6 : Int32) (a0_7 : Nat) (a0_8 : Nat) (a0_9 : Nat) (v0_10 : Int32) (a0_11 : Nat) (a0_12 : Nat) (a0_13 : Nat) (a0_14 : Nat) (v0_15 : Int32) (a0_16 : Nat) (g0_14 : Nat → Int32) (p1 : Int32) (p2 : Int32) (p3 : Int32) (p4 : Int32) (R : Int32 × Int32 × (Nat → Int32)) (hf : f_X0_enterRow v0_15 g0_14 p1 p2 p3 p4 = some R) : Met l yX0_enterRow wsX0_enterRow ({ frames := 0, cells := 0, slots := 0, locals := 0 }) (va_Pc [.ref o0, .int p1, .int p2, .int p3, .int p4] (x_PreD (dC, dI) (x_T cyI cyZ cyJ) [(o0, .inr (0, [.int v0_0, .int v0_1, .int v0_2, .int v0_3, .int v0_4, .ref a0_5, .int v0_6, .ref a0_7, .ref a0_8, .ref a0_9, .int v0_10, .ref a0_11, .ref a0_12, .ref a0_13, .ref a0_14, .int v0_15, .ref a0_16])), (a0_14, .inl (cyI, 200, .inl g0_14))] sz)) (va_Qi (fun (r : Int32) (_ : Unit) => r = R.1) (fun (_ : Unit) (t : State) => va_P (dC, dI) vwCl [(o0, .inr (0, [.int v0_0, .int v0_1, .int v0_2, .int v0_3, .int v0_4, .ref a0_5, .int v0_6, .ref a0_7, .ref a0_8, .ref a0_9, .int v0_10, .ref a0_11, .ref a0_12, .ref a0_13, .ref a0_14, .int (R.2.1), .ref a0_16])), (a0_14, .inl (cyI, 200, .inl R.2.2))] t.heap ∧ va_K (dC, dI) vwCl (x_T cyI cyZ cyJ) t ∧ va_D (va_A [(o0, .inr (0, [.int v0_0, .int v0_1, .int v0_2, .int v0_3, .int v0_4, .ref a0_5, .int v0_6, .ref a0_7, .ref a0_8, .ref a0_9, .int v0_10, .ref a0_11, .ref a0_12, .ref a0_13, .ref a0_14, .int v0_15, .ref a0_16])), (a0_14, .inl (cyI, 200, .inl g0_14))] sz) [(o0, .inr (0, [.int v0_0, .int v0_1, .int v0_2, .int v0_3, .int v0_4, .ref a0_5, .int v0_6, .ref a0_7, .ref a0_8, .ref a0_9, .int v0_10, .ref a0_11, .ref a0_12, .ref a0_13, .ref a0_14, .int (R.2.1), .ref a0_16])), (a0_14, .inl (cyI, 200, .inl R.2.2))]) (va_A [(o0, .inr (0, [.int v0_0, .int v0_1, .int v0_2, .int v0_3, .int v0_4, .ref a0_5, .int v0_6, .ref a0_7, .ref a0_8, .ref a0_9, .int v0_10, .ref a0_11, .ref a0_12, .ref a0_13, .ref a0_14, .int v0_15, .ref a0_16])), (a0_14, .inl (cyI, 200, .inl g0_14))] sz)) 0 0 (va_A [(o0, .inr (0, [.int v0_0, .int v0_1, .int v0_2, .int v0_3, .int v0_4, .ref a0_5, .int v0_6, .ref a0_7, .ref a0_8, .ref a0_9, .int v0_10, .ref a0_11, .ref a0_12, .ref a0_13, .ref a0_14, .int v0_15, .ref a0_16])), (a0_14, .inl (cyI, 200, .inl g0_14))] sz) := by
  refine Met.ofW (cc := cX0_enterRow) (maxL := 6) (ret := (some .int)) (by decide) rfl ?_
  intro p e s m args below meth c s₁ B hml hv
  obtain ⟨rfl, ⟨hsz, hP, hK, hN⟩, hD0⟩ := hv
  have hx := B.exec
  have hb := B.bytes
  have hr := B.returns
  have hts := atoms_spec (ws := wsX0_enterRow) B.pre
  have hown : s.vm.findClass RX0 = some m.cls := findClass_of_methodNamed B.named
  have k_1 := hts (.fieldLink RX0 62 "FlowJudge$Code" "rowCount" "I") (by decide +kernel)
  have k_2 := hts (.fieldLink RX0 37 "FlowJudge$Code" "rows" "[I") (by decide +kernel)
  subst hsz
  have hD := hD0.self (sz := s.heap.size)
  generalize hAe : va_A [(o0, .inr (0, [.int v0_0, .int v0_1, .int v0_2, .int v0_3, .int v0_4, .ref a0_5, .int v0_6, .ref a0_7, .ref a0_8, .ref a0_9, .int v0_10, .ref a0_11, .ref a0_12, .ref a0_13, .ref a0_14, .int v0_15, .ref a0_16])), (a0_14, .inl (cyI, 200, .inl g0_14))] s.heap.size = A at hD ⊢
  have hA : ∀ q : Nat, s.heap.size ≤ q → A q := fun q h => by rw [← hAe]; exact Or.inr h
  have hP : va_P (dC, dI) vwCl [(o0, .inr (0, [.int v0_0, .int v0_1, .int v0_2, .int v0_3, .int v0_4, .ref a0_5, .int v0_6, .ref a0_7, .ref a0_8, .ref a0_9, .int v0_10, .ref a0_11, .ref a0_12, .ref a0_13, .ref a0_14, .int v0_15, .ref a0_16])), (a0_14, .inl (cyI, 200, .inl g0_14))] s.heap := hP
  have hl := lv_entry ([.ref o0, .int p1, .int p2, .int p3, .int p4]) (n := 6) (Nat.le_of_ble_eq_true rfl)
  rw [lg_entry_eq]
  generalize (lg_sl ([.ref o0, .int p1, .int p2, .int p3, .int p4]) ++ List.replicate (6 - (lg_sl ([.ref o0, .int p1, .int p2, .int p3, .int p4])).length) Slot.unset).toArray = ls at hl ⊢
  have hl : lv_has ls 6 [(0, .ref o0), (1, .int p1), (2, .int p2), (3, .int p3), (4, .int p4)] := hl
  obtain ⟨H, hH⟩ : ∃ z, z = s.heap := ⟨_, rfl⟩
  refine x_here hH ?_
  have hP : va_P (dC, dI) vwCl [(o0, .inr (0, [.int v0_0, .int v0_1, .int v0_2, .int v0_3, .int v0_4, .ref a0_5, .int v0_6, .ref a0_7, .ref a0_8, .ref a0_9, .int v0_10, .ref a0_11, .ref a0_12, .ref a0_13, .ref a0_14, .int v0_15, .ref a0_16])), (a0_14, .inl (cyI, 200, .inl g0_14))] H := by rw [hH]; exact hP
  have hS : va_S A s.heap H [] := by rw [hH]; exact va_S.rf
  clear hH
  obtain ⟨locs, hlo⟩ : ∃ z : List Loc, z = [] := ⟨_, rfl⟩
  refine x_herl hlo ?_
  have hS : va_S A s.heap H locs := by rw [hlo]; exact hS
  clear hlo
  unfold f_X0_enterRow at hf
  refine lv_iconst (v := 4) hx hb dX0_enterRow_0 (by decide) ?_
  refine lv_aload_n hx hb dX0_enterRow_1 rfl (lv_at hl 0 rfl) ?_
  refine va_get (D := (dC, dI)) (ci := 0) (v := .int v0_15) (C := RX0) (T := TX0) (N := 17) hx hb hts i_X0_enterRow_X0 hown hK hP 0 rfl rfl 15 (by decide) k_1 (fun _ h9 => h9) rfl dX0_enterRow_2 ?_
  refine lv_imul hx hb dX0_enterRow_5 ?_
  refine lv_istore (lv' := [(5, .int ((4 : Int32) * v0_15)), (0, .ref o0), (1, .int p1), (2, .int p2), (3, .int p3), (4, .int p4)]) hx hb dX0_enterRow_6 hl (by decide) rfl (fun ls hl => ?_)
  refine lv_aload_n hx hb dX0_enterRow_8 rfl (lv_at hl 1 rfl) ?_
  refine va_get (D := (dC, dI)) (ci := 0) (v := .ref a0_14) (C := RX0) (T := TX0) (N := 17) hx hb hts i_X0_enterRow_X0 hown hK hP 0 rfl rfl 14 (by decide) k_2 (fun _ h9 => h9) rfl dX0_enterRow_9 ?_
  refine lv_iload hx hb dX0_enterRow_12 (lv_at hl 0 rfl) ?_
  refine lv_iload_n hx hb dX0_enterRow_14 rfl (lv_at hl 2 rfl) ?_
  obtain ⟨g_1, hf⟩ := x_gu hf
  refine va_iast hx hb hK hP hD hS 1 0 rfl rfl (x_gdin g_1) dX0_enterRow_15 (fun H locs hP hD hS => ?_)
  have hP : va_P (dC, dI) vwCl [(o0, .inr (0, [.int v0_0, .int v0_1, .int v0_2, .int v0_3, .int v0_4, .ref a0_5, .int v0_6, .ref a0_7, .ref a0_8, .ref a0_9, .int v0_10, .ref a0_11, .ref a0_12, .ref a0_13, .ref a0_14, .int v0_15, .ref a0_16])), (a0_14, .inl (cyI, 200, .inl (upd g0_14 (Int32.toNatClampNeg ((4 : Int32) * v0_15)) p1)))] H := hP
  have hD : va_D A [(o0, .inr (0, [.int v0_0, .int v0_1, .int v0_2, .int v0_3, .int v0_4, .ref a0_5, .int v0_6, .ref a0_7, .ref a0_8, .ref a0_9, .int v0_10, .ref a0_11, .ref a0_12, .ref a0_13, .ref a0_14, .int v0_15, .ref a0_16])), (a0_14, .inl (cyI, 200, .inl (upd g0_14 (Int32.toNatClampNeg ((4 : Int32) * v0_15)) p1)))] := hD
  refine lv_aload_n hx hb dX0_enterRow_16 rfl (lv_at hl 1 rfl) ?_
  refine va_get (D := (dC, dI)) (ci := 0) (v := .ref a0_14) (C := RX0) (T := TX0) (N := 17) hx hb hts i_X0_enterRow_X0 hown hK hP 0 rfl rfl 14 (by decide) k_2 (fun _ h9 => h9) rfl dX0_enterRow_17 ?_
  refine lv_iload hx hb dX0_enterRow_20 (lv_at hl 0 rfl) ?_
  refine lv_iconst (v := 1) hx hb dX0_enterRow_22 (by decide) ?_
  refine lv_iadd hx hb dX0_enterRow_23 ?_
  refine lv_iload_n hx hb dX0_enterRow_24 rfl (lv_at hl 3 rfl) ?_
  obtain ⟨g_2, hf⟩ := x_gu hf
  refine va_iast hx hb hK hP hD hS 1 0 rfl rfl (x_gdin g_2) dX0_enterRow_25 (fun H locs hP hD hS => ?_)
  have hP : va_P (dC, dI) vwCl [(o0, .inr (0, [.int v0_0, .int v0_1, .int v0_2, .int v0_3, .int v0_4, .ref a0_5, .int v0_6, .ref a0_7, .ref a0_8, .ref a0_9, .int v0_10, .ref a0_11, .ref a0_12, .ref a0_13, .ref a0_14, .int v0_15, .ref a0_16])), (a0_14, .inl (cyI, 200, .inl (upd (upd g0_14 (Int32.toNatClampNeg ((4 : Int32) * v0_15)) p1) (Int32.toNatClampNeg (((4 : Int32) * v0_15) + (1 : Int32))) p2)))] H := hP
  have hD : va_D A [(o0, .inr (0, [.int v0_0, .int v0_1, .int v0_2, .int v0_3, .int v0_4, .ref a0_5, .int v0_6, .ref a0_7, .ref a0_8, .ref a0_9, .int v0_10, .ref a0_11, .ref a0_12, .ref a0_13, .ref a0_14, .int v0_15, .ref a0_16])), (a0_14, .inl (cyI, 200, .inl (upd (upd g0_14 (Int32.toNatClampNeg ((4 : Int32) * v0_15)) p1) (Int32.toNatClampNeg (((4 : Int32) * v0_15) + (1 : Int32))) p2)))] := hD
  refine lv_aload_n hx hb dX0_enterRow_26 rfl (lv_at hl 1 rfl) ?_
  refine va_get (D := (dC, dI)) (ci := 0) (v := .ref a0_14) (C := RX0) (T := TX0) (N := 17) hx hb hts i_X0_enterRow_X0 hown hK hP 0 rfl rfl 14 (by decide) k_2 (fun _ h9 => h9) rfl dX0_enterRow_27 ?_
  refine lv_iload hx hb dX0_enterRow_30 (lv_at hl 0 rfl) ?_
  refine lv_iconst (v := 2) hx hb dX0_enterRow_32 (by decide) ?_
  refine lv_iadd hx hb dX0_enterRow_33 ?_
  refine lv_iload_n hx hb dX0_enterRow_34 rfl (lv_at hl 4 rfl) ?_
  obtain ⟨g_3, hf⟩ := x_gu hf
  refine va_iast hx hb hK hP hD hS 1 0 rfl rfl (x_gdin g_3) dX0_enterRow_35 (fun H locs hP hD hS => ?_)
  have hP : va_P (dC, dI) vwCl [(o0, .inr (0, [.int v0_0, .int v0_1, .int v0_2, .int v0_3, .int v0_4, .ref a0_5, .int v0_6, .ref a0_7, .ref a0_8, .ref a0_9, .int v0_10, .ref a0_11, .ref a0_12, .ref a0_13, .ref a0_14, .int v0_15, .ref a0_16])), (a0_14, .inl (cyI, 200, .inl (upd (upd (upd g0_14 (Int32.toNatClampNeg ((4 : Int32) * v0_15)) p1) (Int32.toNatClampNeg (((4 : Int32) * v0_15) + (1 : Int32))) p2) (Int32.toNatClampNeg (((4 : Int32) * v0_15) + (2 : Int32))) p3)))] H := hP
  have hD : va_D A [(o0, .inr (0, [.int v0_0, .int v0_1, .int v0_2, .int v0_3, .int v0_4, .ref a0_5, .int v0_6, .ref a0_7, .ref a0_8, .ref a0_9, .int v0_10, .ref a0_11, .ref a0_12, .ref a0_13, .ref a0_14, .int v0_15, .ref a0_16])), (a0_14, .inl (cyI, 200, .inl (upd (upd (upd g0_14 (Int32.toNatClampNeg ((4 : Int32) * v0_15)) p1) (Int32.toNatClampNeg (((4 : Int32) * v0_15) + (1 : Int32))) p2) (Int32.toNatClampNeg (((4 : Int32) * v0_15) + (2 : Int32))) p3)))] := hD
  refine lv_aload_n hx hb dX0_enterRow_36 rfl (lv_at hl 1 rfl) ?_
  refine va_get (D := (dC, dI)) (ci := 0) (v := .ref a0_14) (C := RX0) (T := TX0) (N := 17) hx hb hts i_X0_enterRow_X0 hown hK hP 0 rfl rfl 14 (by decide) k_2 (fun _ h9 => h9) rfl dX0_enterRow_37 ?_
  refine lv_iload hx hb dX0_enterRow_40 (lv_at hl 0 rfl) ?_
  refine lv_iconst (v := 3) hx hb dX0_enterRow_42 (by decide) ?_
  refine lv_iadd hx hb dX0_enterRow_43 ?_
  refine lv_iload hx hb dX0_enterRow_44 (lv_at hl 5 rfl) ?_
  obtain ⟨g_4, hf⟩ := x_gu hf
  refine va_iast hx hb hK hP hD hS 1 0 rfl rfl (x_gdin g_4) dX0_enterRow_46 (fun H locs hP hD hS => ?_)
  have hP : va_P (dC, dI) vwCl [(o0, .inr (0, [.int v0_0, .int v0_1, .int v0_2, .int v0_3, .int v0_4, .ref a0_5, .int v0_6, .ref a0_7, .ref a0_8, .ref a0_9, .int v0_10, .ref a0_11, .ref a0_12, .ref a0_13, .ref a0_14, .int v0_15, .ref a0_16])), (a0_14, .inl (cyI, 200, .inl (upd (upd (upd (upd g0_14 (Int32.toNatClampNeg ((4 : Int32) * v0_15)) p1) (Int32.toNatClampNeg (((4 : Int32) * v0_15) + (1 : Int32))) p2) (Int32.toNatClampNeg (((4 : Int32) * v0_15) + (2 : Int32))) p3) (Int32.toNatClampNeg (((4 : Int32) * v0_15) + (3 : Int32))) p4)))] H := hP
  have hD : va_D A [(o0, .inr (0, [.int v0_0, .int v0_1, .int v0_2, .int v0_3, .int v0_4, .ref a0_5, .int v0_6, .ref a0_7, .ref a0_8, .ref a0_9, .int v0_10, .ref a0_11, .ref a0_12, .ref a0_13, .ref a0_14, .int v0_15, .ref a0_16])), (a0_14, .inl (cyI, 200, .inl (upd (upd (upd (upd g0_14 (Int32.toNatClampNeg ((4 : Int32) * v0_15)) p1) (Int32.toNatClampNeg (((4 : Int32) * v0_15) + (1 : Int32))) p2) (Int32.toNatClampNeg (((4 : Int32) * v0_15) + (2 : Int32))) p3) (Int32.toNatClampNeg (((4 : Int32) * v0_15) + (3 : Int32))) p4)))] := hD
  refine lv_aload_n hx hb dX0_enterRow_47 rfl (lv_at hl 1 rfl) ?_
  refine lv_dup hx hb dX0_enterRow_48 rfl ?_
  refine va_get (D := (dC, dI)) (ci := 0) (v := .int v0_15) (C := RX0) (T := TX0) (N := 17) hx hb hts i_X0_enterRow_X0 hown hK hP 0 rfl rfl 15 (by decide) k_1 (fun _ h9 => h9) rfl dX0_enterRow_49 ?_
  refine lv_iconst (v := 1) hx hb dX0_enterRow_52 (by decide) ?_
  refine lv_iadd hx hb dX0_enterRow_53 ?_
  refine va_put (D := (dC, dI)) (ci := 0) (v := .int (v0_15 + (1 : Int32))) (ty := .int) (C := RX0) (T := TX0) (N := 17) hx hb hts i_X0_enterRow_X0 tyX0 tyX0_ok nmX0 hown hK hP hD hS 0 rfl rfl 15 (by decide) k_1 (fun _ h9 => h9) rfl (by decide +kernel) rfl rfl (Nat.le_of_ble_eq_true rfl) dX0_enterRow_54 (fun H locs hP hD hS => ?_)
  have hP : va_P (dC, dI) vwCl [(o0, .inr (0, [.int v0_0, .int v0_1, .int v0_2, .int v0_3, .int v0_4, .ref a0_5, .int v0_6, .ref a0_7, .ref a0_8, .ref a0_9, .int v0_10, .ref a0_11, .ref a0_12, .ref a0_13, .ref a0_14, .int (v0_15 + (1 : Int32)), .ref a0_16])), (a0_14, .inl (cyI, 200, .inl (upd (upd (upd (upd g0_14 (Int32.toNatClampNeg ((4 : Int32) * v0_15)) p1) (Int32.toNatClampNeg (((4 : Int32) * v0_15) + (1 : Int32))) p2) (Int32.toNatClampNeg (((4 : Int32) * v0_15) + (2 : Int32))) p3) (Int32.toNatClampNeg (((4 : Int32) * v0_15) + (3 : Int32))) p4)))] H := hP
  have hD : va_D A [(o0, .inr (0, [.int v0_0, .int v0_1, .int v0_2, .int v0_3, .int v0_4, .ref a0_5, .int v0_6, .ref a0_7, .ref a0_8, .ref a0_9, .int v0_10, .ref a0_11, .ref a0_12, .ref a0_13, .ref a0_14, .int (v0_15 + (1 : Int32)), .ref a0_16])), (a0_14, .inl (cyI, 200, .inl (upd (upd (upd (upd g0_14 (Int32.toNatClampNeg ((4 : Int32) * v0_15)) p1) (Int32.toNatClampNeg (((4 : Int32) * v0_15) + (1 : Int32))) p2) (Int32.toNatClampNeg (((4 : Int32) * v0_15) + (2 : Int32))) p3) (Int32.toNatClampNeg (((4 : Int32) * v0_15) + (3 : Int32))) p4)))] := hD
  refine lv_aload_n hx hb dX0_enterRow_57 rfl (lv_at hl 1 rfl) ?_
  refine va_get (D := (dC, dI)) (ci := 0) (v := .int (v0_15 + (1 : Int32))) (C := RX0) (T := TX0) (N := 17) hx hb hts i_X0_enterRow_X0 hown hK hP 0 rfl rfl 15 (by decide) k_1 (fun _ h9 => h9) rfl dX0_enterRow_58 ?_
  obtain rfl := Option.some.inj hf
  have hP9 := hP.sub (ws' := [(o0, .inr (0, [.int v0_0, .int v0_1, .int v0_2, .int v0_3, .int v0_4, .ref a0_5, .int v0_6, .ref a0_7, .ref a0_8, .ref a0_9, .int v0_10, .ref a0_11, .ref a0_12, .ref a0_13, .ref a0_14, .int (v0_15 + (1 : Int32)), .ref a0_16])), (a0_14, .inl (cyI, 200, .inl (upd (upd (upd (upd g0_14 (Int32.toNatClampNeg ((4 : Int32) * v0_15)) p1) (Int32.toNatClampNeg (((4 : Int32) * v0_15) + (1 : Int32))) p2) (Int32.toNatClampNeg (((4 : Int32) * v0_15) + (2 : Int32))) p3) (Int32.toNatClampNeg (((4 : Int32) * v0_15) + (3 : Int32))) p4)))]) [0, 1] rfl
  have hD9 := hD.sub (ws' := [(o0, .inr (0, [.int v0_0, .int v0_1, .int v0_2, .int v0_3, .int v0_4, .ref a0_5, .int v0_6, .ref a0_7, .ref a0_8, .ref a0_9, .int v0_10, .ref a0_11, .ref a0_12, .ref a0_13, .ref a0_14, .int (v0_15 + (1 : Int32)), .ref a0_16])), (a0_14, .inl (cyI, 200, .inl (upd (upd (upd (upd g0_14 (Int32.toNatClampNeg ((4 : Int32) * v0_15)) p1) (Int32.toNatClampNeg (((4 : Int32) * v0_15) + (1 : Int32))) p2) (Int32.toNatClampNeg (((4 : Int32) * v0_15) + (2 : Int32))) p3) (Int32.toNatClampNeg (((4 : Int32) * v0_15) + (3 : Int32))) p4)))]) [0, 1] (by decide) rfl
  exact W.iret hx hb hr (fun t ht hW => ⟨⟨_, (), rfl, rfl, by rw [ht]; exact hP9, va_K.moved hW.alike hK, hD9⟩, hS.F ht⟩) hS.2.2 dX0_enterRow_61

def f_X0_argumentPlaces_L (v0_1 : Int32) (v0_6 : Int32) (g0_5 : Nat → Int32) (z : Nat × Int32 × Int32) : Option (Int32) := match z with
  | (q, l1, l2) => if q = 0 then if v0_6 ≤ l2 then some l1 else if x_gd l2 20 = true then (f_X7_widthOf (g0_5 (Int32.toNatClampNeg l2))) >>= (fun r_3 => (f_X0_argumentPlaces_L v0_1 v0_6 g0_5 (0, l1 + r_3, l2 + 1))) else none else none
partial_fixpoint
def f_X0_argumentPlaces (v0_1 : Int32) (v0_6 : Int32) (g0_5 : Nat → Int32) : Option (Int32) := if v0_1 = (0 : Int32) then (f_X0_argumentPlaces_L v0_1 v0_6 g0_5 (0, 0, 0)) else (f_X0_argumentPlaces_L v0_1 v0_6 g0_5 (0, 1, 0))
theorem i_X0_argumentPlaces_X0 : ∀ w ∈ wsX00, w ∈ wsX0_argumentPlaces := fun _ h => List.mem_cons_of_mem _ (List.mem_append_right _ h)
set_option maxHeartbeats 4000000 in
set_option maxRecDepth 100000 in
theorem c_X0_argumentPlaces (l : Launch) (dC : Nat → ClassId) (dI : Nat → Nat → Nat) (cyI cyZ cyJ : ClassId) (sz : Nat) (o0 : Nat) (v0_0 : Int32) (v0_1 : Int32) (v0_2 : Int32) (v0_3 : Int32) (v0_4 : Int32) (a0_5 : Nat) (v0_6 : Int32) (a0_7 : Nat) (a0_8 : Nat) (a0_9 : Nat) (v0_10 : Int32) (a0_11 : Nat) (a0_12 : Nat) (a0_13 : Nat) (a0_14 : Nat) (v0_15 : Int32) (a0_16 : Nat) (g0_5 : Nat → Int32) (R : Int32) (hf : f_X0_argumentPlaces v0_1 v0_6 g0_5 = some R) : Met l yX0_argumentPlaces wsX0_argumentPlaces ({ frames := 1, cells := 0, slots := 0, locals := 20 }) (va_Pc [.ref o0] (x_Pre (dC, dI) (x_T cyI cyZ cyJ) [(o0, .inr (0, [.int v0_0, .int v0_1, .int v0_2, .int v0_3, .int v0_4, .ref a0_5, .int v0_6, .ref a0_7, .ref a0_8, .ref a0_9, .int v0_10, .ref a0_11, .ref a0_12, .ref a0_13, .ref a0_14, .int v0_15, .ref a0_16])), (a0_5, .inl (cyI, 20, .inl g0_5))] sz)) (va_Qi (fun (r : Int32) (_ : Unit) => r = R) (fun _ _ => True) (x_new sz)) 0 0 (x_new sz) := by
  refine Met.ofW (cc := cX0_argumentPlaces) (maxL := 3) (ret := (some .int)) (by decide) rfl ?_
  intro p e s m args below meth c s₁ B hml hv
  obtain ⟨rfl, hsz, hP, hK, hN⟩ := hv
  have hx := B.exec
  have hb := B.bytes
  have hr := B.returns
  have hts := atoms_spec (ws := wsX0_argumentPlaces) B.pre
  have hown : s.vm.findClass RX0 = some m.cls := findClass_of_methodNamed B.named
  have k_1 := hts (.fieldLink RX0 56 "FlowJudge$Code" "argumentCount" "I") (by decide +kernel)
  have k_2 := hts (.fieldLink RX0 15 "FlowJudge$Code" "arguments" "[I") (by decide +kernel)
  have k_3 := hts (.fieldLink RX0 47 "FlowJudge$Code" "how" "I") (by decide +kernel)
  subst hsz
  have hA : ∀ q : Nat, s.heap.size ≤ q → x_new s.heap.size q := fun _ h => h
  have hS : va_S (x_new s.heap.size) s.heap s.heap [] := va_S.rf
  have hP : va_P (dC, dI) vwCl [(o0, .inr (0, [.int v0_0, .int v0_1, .int v0_2, .int v0_3, .int v0_4, .ref a0_5, .int v0_6, .ref a0_7, .ref a0_8, .ref a0_9, .int v0_10, .ref a0_11, .ref a0_12, .ref a0_13, .ref a0_14, .int v0_15, .ref a0_16])), (a0_5, .inl (cyI, 20, .inl g0_5))] s.heap := hP
  have hl := lv_entry ([.ref o0]) (n := 3) (Nat.le_of_ble_eq_true rfl)
  rw [lg_entry_eq]
  generalize (lg_sl ([.ref o0]) ++ List.replicate (3 - (lg_sl ([.ref o0])).length) Slot.unset).toArray = ls at hl ⊢
  have hl : lv_has ls 3 [(0, .ref o0)] := hl
  obtain ⟨H, hH⟩ : ∃ z, z = s.heap := ⟨_, rfl⟩
  refine x_here hH ?_
  have hP : va_P (dC, dI) vwCl [(o0, .inr (0, [.int v0_0, .int v0_1, .int v0_2, .int v0_3, .int v0_4, .ref a0_5, .int v0_6, .ref a0_7, .ref a0_8, .ref a0_9, .int v0_10, .ref a0_11, .ref a0_12, .ref a0_13, .ref a0_14, .int v0_15, .ref a0_16])), (a0_5, .inl (cyI, 20, .inl g0_5))] H := by rw [hH]; exact hP
  have hS : va_S (x_new s.heap.size) s.heap H [] := by rw [hH]; exact va_S.rf
  clear hH
  obtain ⟨locs, hlo⟩ : ∃ z : List Loc, z = [] := ⟨_, rfl⟩
  refine x_herl hlo ?_
  have hS : va_S (x_new s.heap.size) s.heap H locs := by rw [hlo]; exact hS
  clear hlo
  unfold f_X0_argumentPlaces at hf
  refine x_wn (fun WW hWW => ?_)
  have J := f_X0_argumentPlaces_L.partial_correctness v0_1 v0_6 g0_5 (fun (z : Nat × Int32 × Int32) (r : Int32) => r = R → ∀ (q : Nat) (l1 : Int32) (l2 : Int32), z = (q, l1, l2) → ((q = 0 → ∀ (H : Heap) (locs : List Loc) (ls : Array Slot), va_P (dC, dI) vwCl [(o0, .inr (0, [.int v0_0, .int v0_1, .int v0_2, .int v0_3, .int v0_4, .ref a0_5, .int v0_6, .ref a0_7, .ref a0_8, .ref a0_9, .int v0_10, .ref a0_11, .ref a0_12, .ref a0_13, .ref a0_14, .int v0_15, .ref a0_16])), (a0_5, .inl (cyI, 20, .inl g0_5))] H → va_S (x_new s.heap.size) s.heap H locs → lv_has ls 3 [(0, .ref o0), (1, .int l1), (2, .int l2)] → WW H locs 0 0 (F0 m 15 ls [])))) (by
    intro F ih z r hf hr q l1 l2 hz
    subst hz
    obtain rfl := hr
    · intro hq H locs ls hP hS hl
      subst hq
      refine (hWW _ _ _ _ _).mp ?_
      replace hf := x_ip rfl hf
      refine lv_iload_n hx hb dX0_argumentPlaces_15 rfl (lv_at hl 2 rfl) ?_
      refine lv_aload_n hx hb dX0_argumentPlaces_16 rfl (lv_at hl 0 rfl) ?_
      refine va_get (D := (dC, dI)) (ci := 0) (v := .int v0_6) (C := RX0) (T := TX0) (N := 17) hx hb hts i_X0_argumentPlaces_X0 hown hK hP 0 rfl rfl 6 (by decide) k_1 (fun _ h9 => h9) rfl dX0_argumentPlaces_17 ?_
      refine lv_icmp_ge (tgt := 41) hx hb dX0_argumentPlaces_20 (by decide) (fun c_1 => ?_) (fun c_1 => ?_)
      · replace hf := x_ip c_1 hf
        refine lv_iload_n hx hb dX0_argumentPlaces_41 rfl (lv_at hl 1 rfl) ?_
        obtain rfl := Option.some.inj hf
        exact W.iret hx hb hr (fun t ht hW => ⟨⟨_, (), rfl, rfl, trivial⟩, hS.F ht⟩) hS.2.2 dX0_argumentPlaces_42
      · replace hf := x_in c_1 hf
        refine lv_iload_n hx hb dX0_argumentPlaces_23 rfl (lv_at hl 1 rfl) ?_
        refine lv_aload_n hx hb dX0_argumentPlaces_24 rfl (lv_at hl 0 rfl) ?_
        refine va_get (D := (dC, dI)) (ci := 0) (v := .ref a0_5) (C := RX0) (T := TX0) (N := 17) hx hb hts i_X0_argumentPlaces_X0 hown hK hP 0 rfl rfl 5 (by decide) k_2 (fun _ h9 => h9) rfl dX0_argumentPlaces_25 ?_
        refine lv_iload_n hx hb dX0_argumentPlaces_28 rfl (lv_at hl 2 rfl) ?_
        obtain ⟨g_2, hf⟩ := x_gu hf
        refine va_iald hx hb hK hP 1 0 rfl rfl (x_gdin g_2) dX0_argumentPlaces_29 ?_
        obtain ⟨r_3, h_3, hf⟩ := x_bi hf
        have hPc := hP.sub (ws' := []) [] rfl
        refine va_calli (va_runS (As := [.int (g0_5 (Int32.toNatClampNeg l2))]) (rest := [.int l1]) ⟨hx, hb, hml, hown, hts⟩ (c_X7_widthOf l dC dI cyI cyZ cyJ H.size (g0_5 (Int32.toNatClampNeg l2)) r_3 h_3) (va_cwS 1 hts gX0_argumentPlaces_X7_widthOf rfl rfl rfl (by decide +kernel) ⟨Nat.le_of_ble_eq_true rfl, Nat.le_of_ble_eq_true rfl⟩) (x_pS hN hK hPc) rfl rfl hl.1 rfl (lv_room (Nat.le_of_ble_eq_true rfl)) dX0_argumentPlaces_30 ⟨Nat.le_of_ble_eq_true rfl, Nat.le_of_ble_eq_true rfl⟩) hS x_nA (x_nf hA hS) (fun q_3 u t H1 locs ht hvm hw hB hz1 hk1 hS => ?_)
        have hP := x_kp hP hk1
        clear ht hvm hB hz1 hk1 t u hPc
        generalize H1 = H at hP hS ⊢
        obtain rfl := hw.symm
        refine lv_iadd hx hb dX0_argumentPlaces_33 ?_
        refine lv_istore_n (lv' := [(1, .int (l1 + r_3)), (0, .ref o0), (2, .int l2)]) hx hb dX0_argumentPlaces_34 rfl hl (by decide) rfl (fun ls hl => ?_)
        refine lv_iinc (v := (l2 + 1)) (lv' := [(2, .int (l2 + 1)), (1, .int (l1 + r_3)), (0, .ref o0)]) hx hb dX0_argumentPlaces_35 hl (k := 2) rfl rfl (by decide) rfl (fun ls hl => ?_)
        refine lv_goto (tgt := 15) hx hb dX0_argumentPlaces_38 (by decide) ?_
        exact (hWW _ _ _ _ _).mpr ((ih (0, l1 + r_3, l2 + 1) _ hf rfl _ _ _ rfl) rfl H locs ls hP hS (lv_sub hl [2, 1, 0] rfl)))
  refine lv_aload_n hx hb dX0_argumentPlaces_0 rfl (lv_at hl 0 rfl) ?_
  refine va_get (D := (dC, dI)) (ci := 0) (v := .int v0_1) (C := RX0) (T := TX0) (N := 17) hx hb hts i_X0_argumentPlaces_X0 hown hK hP 0 rfl rfl 1 (by decide) k_3 (fun _ h9 => h9) rfl dX0_argumentPlaces_1 ?_
  refine lv_if_ne (tgt := 11) hx hb dX0_argumentPlaces_4 (by decide) (fun c_4 => ?_) (fun c_4 => ?_)
  · replace hf := x_in c_4 hf
    refine lv_iconst (v := 1) hx hb dX0_argumentPlaces_11 (by decide) ?_
    refine lv_istore_n (lv' := [(1, .int 1), (0, .ref o0)]) hx hb dX0_argumentPlaces_12 rfl hl (by decide) rfl (fun ls hl => ?_)
    refine lv_iconst (v := 0) hx hb dX0_argumentPlaces_13 (by decide) ?_
    refine lv_istore_n (lv' := [(2, .int 0), (1, .int 1), (0, .ref o0)]) hx hb dX0_argumentPlaces_14 rfl hl (by decide) rfl (fun ls hl => ?_)
    exact (hWW _ _ _ _ _).mpr ((J (0, 1, 0) _ hf rfl _ _ _ rfl) rfl H locs ls hP hS (lv_sub hl [2, 1, 0] rfl))
  · replace hf := x_ip c_4 hf
    refine lv_iconst (v := 0) hx hb dX0_argumentPlaces_7 (by decide) ?_
    refine lv_goto (tgt := 12) hx hb dX0_argumentPlaces_8 (by decide) ?_
    refine lv_istore_n (lv' := [(1, .int 0), (0, .ref o0)]) hx hb dX0_argumentPlaces_12 rfl hl (by decide) rfl (fun ls hl => ?_)
    refine lv_iconst (v := 0) hx hb dX0_argumentPlaces_13 (by decide) ?_
    refine lv_istore_n (lv' := [(2, .int 0), (1, .int 0), (0, .ref o0)]) hx hb dX0_argumentPlaces_14 rfl hl (by decide) rfl (fun ls hl => ?_)
    exact (hWW _ _ _ _ _).mpr ((J (0, 0, 0) _ hf rfl _ _ _ rfl) rfl H locs ls hP hS (lv_sub hl [2, 1, 0] rfl))

def f_X0_isSoundAt_L (v0_3 : Int32) (v0_10 : Int32) (g0_7 : Nat → Int32) (g0_8 : Nat → Int32) (g0_11 : Nat → Int32) (n0_11 : Nat) (g0_12 : Nat → Int32) (g0_13 : Nat → Int32) (l1 : Int32) (z : Nat × Int32 × Int32) : Option (Int32) := match z with
  | (q, l3, l4) => if q = 0 then if x_gd l1 1000 = true then if (g0_13 (Int32.toNatClampNeg l1)) ≤ l4 then if x_01 l3 = true then some l3 else none else if l3 = (0 : Int32) then (f_X0_isSoundAt_L v0_3 v0_10 g0_7 g0_8 g0_11 n0_11 g0_12 g0_13 l1 (0, 0, l4 + 1)) else if x_gd l4 n0_11 = true then if v0_10 ≤ (g0_11 (Int32.toNatClampNeg l4)) then (f_X0_isSoundAt_L v0_3 v0_10 g0_7 g0_8 g0_11 n0_11 g0_12 g0_13 l1 (0, 0, l4 + 1)) else (f_X0_isSoundAt_L v0_3 v0_10 g0_7 g0_8 g0_11 n0_11 g0_12 g0_13 l1 (0, 1, l4 + 1)) else none else none else none
partial_fixpoint
def f_X0_isSoundAt (v0_3 : Int32) (v0_10 : Int32) (g0_7 : Nat → Int32) (g0_8 : Nat → Int32) (g0_11 : Nat → Int32) (n0_11 : Nat) (g0_12 : Nat → Int32) (g0_13 : Nat → Int32) (p1 : Int32) : Option (Int32) := if x_gd p1 1000 = true then (f_X0_isOfLocal (g0_7 (Int32.toNatClampNeg p1))) >>= (fun r_8 => if r_8 = (0 : Int32) then (f_X0_isJump (g0_7 (Int32.toNatClampNeg p1))) >>= (fun r_10 => if r_10 = (0 : Int32) then (f_X0_isSwitch (g0_7 (Int32.toNatClampNeg p1))) >>= (fun r_12 => if r_12 = (0 : Int32) then some 1 else if x_gd p1 1000 = true then if x_gd p1 1000 = true then if (g0_13 (Int32.toNatClampNeg p1)) ≤ (g0_12 (Int32.toNatClampNeg p1)) then if x_gd p1 1000 = true then (f_X0_isSoundAt_L v0_3 v0_10 g0_7 g0_8 g0_11 n0_11 g0_12 g0_13 p1 (0, 0, g0_12 (Int32.toNatClampNeg p1))) else none else if x_gd p1 1000 = true then (f_X0_isSoundAt_L v0_3 v0_10 g0_7 g0_8 g0_11 n0_11 g0_12 g0_13 p1 (0, 1, g0_12 (Int32.toNatClampNeg p1))) else none else none else none) else if x_gd p1 1000 = true then if v0_10 ≤ (g0_8 (Int32.toNatClampNeg p1)) then some 0 else some 1 else none) else if x_gd p1 1000 = true then (f_X0_isOfWideLocal (g0_7 (Int32.toNatClampNeg p1))) >>= (fun r_22 => if r_22 = (0 : Int32) then if v0_3 ≤ (g0_8 (Int32.toNatClampNeg p1)) then some 0 else some 1 else if (v0_3 - (1 : Int32)) ≤ (g0_8 (Int32.toNatClampNeg p1)) then some 0 else some 1) else none) else none
theorem i_X0_isSoundAt_X0 : ∀ w ∈ wsX00, w ∈ wsX0_isSoundAt := fun _ h => List.mem_cons_of_mem _ (List.mem_append_right _ h)
set_option maxHeartbeats 4000000 in
set_option maxRecDepth 100000 in
theorem c_X0_isSoundAt (l : Launch) (dC : Nat → ClassId) (dI : Nat → Nat → Nat) (cyI cyZ cyJ : ClassId) (sz : Nat) (o0 : Nat) (v0_0 : Int32) (v0_1 : Int32) (v0_2 : Int32) (v0_3 : Int32) (v0_4 : Int32) (a0_5 : Nat) (v0_6 : Int32) (a0_7 : Nat) (a0_8 : Nat) (a0_9 : Nat) (v0_10 : Int32) (a0_11 : Nat) (a0_12 : Nat) (a0_13 : Nat) (a0_14 : Nat) (v0_15 : Int32) (a0_16 : Nat) (g0_7 : Nat → Int32) (g0_8 : Nat → Int32) (g0_11 : Nat → Int32) (n0_11 : Nat) (g0_12 : Nat → Int32) (g0_13 : Nat → Int32) (p1 : Int32) (R : Int32) (hf : f_X0_isSoundAt v0_3 v0_10 g0_7 g0_8 g0_11 n0_11 g0_12 g0_13 p1 = some R) : Met l yX0_isSoundAt wsX0_isSoundAt ({ frames := 1, cells := 0, slots := 0, locals := 20 }) (va_Pc [.ref o0, .int p1] (x_Pre (dC, dI) (x_T cyI cyZ cyJ) [(o0, .inr (0, [.int v0_0, .int v0_1, .int v0_2, .int v0_3, .int v0_4, .ref a0_5, .int v0_6, .ref a0_7, .ref a0_8, .ref a0_9, .int v0_10, .ref a0_11, .ref a0_12, .ref a0_13, .ref a0_14, .int v0_15, .ref a0_16])), (a0_7, .inl (cyI, 1000, .inl g0_7)), (a0_8, .inl (cyI, 1000, .inl g0_8)), (a0_11, .inl (cyI, n0_11, .inl g0_11)), (a0_12, .inl (cyI, 1000, .inl g0_12)), (a0_13, .inl (cyI, 1000, .inl g0_13))] sz)) (va_Qi (fun (r : Int32) (_ : Unit) => r = R ∧ x_nb r) (fun _ _ => True) (x_new sz)) 0 0 (x_new sz) := by
  refine Met.ofW (cc := cX0_isSoundAt) (maxL := 5) (ret := (some .boolean)) (by decide) rfl ?_
  intro p e s m args below meth c s₁ B hml hv
  obtain ⟨rfl, hsz, hP, hK, hN⟩ := hv
  have hx := B.exec
  have hb := B.bytes
  have hr := B.returns
  have hts := atoms_spec (ws := wsX0_isSoundAt) B.pre
  have hown : s.vm.findClass RX0 = some m.cls := findClass_of_methodNamed B.named
  have k_1 := hts (.fieldLink RX0 34 "FlowJudge$Code" "upToSwitched" "[I") (by decide +kernel)
  have k_2 := hts (.fieldLink RX0 28 "FlowJudge$Code" "switched" "[I") (by decide +kernel)
  have k_3 := hts (.fieldLink RX0 59 "FlowJudge$Code" "count" "I") (by decide +kernel)
  have k_4 := hts (.fieldLink RX0 19 "FlowJudge$Code" "ops" "[I") (by decide +kernel)
  have k_5 := hts (.fieldLink RX0 31 "FlowJudge$Code" "firstSwitched" "[I") (by decide +kernel)
  have k_6 := hts (.fieldLink RX0 22 "FlowJudge$Code" "as" "[I") (by decide +kernel)
  have k_7 := hts (.fieldLink RX0 50 "FlowJudge$Code" "locals" "I") (by decide +kernel)
  subst hsz
  have hA : ∀ q : Nat, s.heap.size ≤ q → x_new s.heap.size q := fun _ h => h
  have hS : va_S (x_new s.heap.size) s.heap s.heap [] := va_S.rf
  have hP : va_P (dC, dI) vwCl [(o0, .inr (0, [.int v0_0, .int v0_1, .int v0_2, .int v0_3, .int v0_4, .ref a0_5, .int v0_6, .ref a0_7, .ref a0_8, .ref a0_9, .int v0_10, .ref a0_11, .ref a0_12, .ref a0_13, .ref a0_14, .int v0_15, .ref a0_16])), (a0_7, .inl (cyI, 1000, .inl g0_7)), (a0_8, .inl (cyI, 1000, .inl g0_8)), (a0_11, .inl (cyI, n0_11, .inl g0_11)), (a0_12, .inl (cyI, 1000, .inl g0_12)), (a0_13, .inl (cyI, 1000, .inl g0_13))] s.heap := hP
  have hl := lv_entry ([.ref o0, .int p1]) (n := 5) (Nat.le_of_ble_eq_true rfl)
  rw [lg_entry_eq]
  generalize (lg_sl ([.ref o0, .int p1]) ++ List.replicate (5 - (lg_sl ([.ref o0, .int p1])).length) Slot.unset).toArray = ls at hl ⊢
  have hl : lv_has ls 5 [(0, .ref o0), (1, .int p1)] := hl
  obtain ⟨H, hH⟩ : ∃ z, z = s.heap := ⟨_, rfl⟩
  refine x_here hH ?_
  have hP : va_P (dC, dI) vwCl [(o0, .inr (0, [.int v0_0, .int v0_1, .int v0_2, .int v0_3, .int v0_4, .ref a0_5, .int v0_6, .ref a0_7, .ref a0_8, .ref a0_9, .int v0_10, .ref a0_11, .ref a0_12, .ref a0_13, .ref a0_14, .int v0_15, .ref a0_16])), (a0_7, .inl (cyI, 1000, .inl g0_7)), (a0_8, .inl (cyI, 1000, .inl g0_8)), (a0_11, .inl (cyI, n0_11, .inl g0_11)), (a0_12, .inl (cyI, 1000, .inl g0_12)), (a0_13, .inl (cyI, 1000, .inl g0_13))] H := by rw [hH]; exact hP
  have hS : va_S (x_new s.heap.size) s.heap H [] := by rw [hH]; exact va_S.rf
  clear hH
  obtain ⟨locs, hlo⟩ : ∃ z : List Loc, z = [] := ⟨_, rfl⟩
  refine x_herl hlo ?_
  have hS : va_S (x_new s.heap.size) s.heap H locs := by rw [hlo]; exact hS
  clear hlo
  unfold f_X0_isSoundAt at hf
  refine x_wn (fun WW hWW => ?_)
  have J := fun (l1 : Int32) => f_X0_isSoundAt_L.partial_correctness v0_3 v0_10 g0_7 g0_8 g0_11 n0_11 g0_12 g0_13 l1 (fun (z : Nat × Int32 × Int32) (r : Int32) => r = R → ∀ (q : Nat) (l3 : Int32) (l4 : Int32), z = (q, l3, l4) → ((q = 0 → ∀ (H : Heap) (locs : List Loc) (ls : Array Slot), va_P (dC, dI) vwCl [(o0, .inr (0, [.int v0_0, .int v0_1, .int v0_2, .int v0_3, .int v0_4, .ref a0_5, .int v0_6, .ref a0_7, .ref a0_8, .ref a0_9, .int v0_10, .ref a0_11, .ref a0_12, .ref a0_13, .ref a0_14, .int v0_15, .ref a0_16])), (a0_7, .inl (cyI, 1000, .inl g0_7)), (a0_8, .inl (cyI, 1000, .inl g0_8)), (a0_11, .inl (cyI, n0_11, .inl g0_11)), (a0_12, .inl (cyI, 1000, .inl g0_12)), (a0_13, .inl (cyI, 1000, .inl g0_13))] H → va_S (x_new s.heap.size) s.heap H locs → lv_has ls 5 [(0, .ref o0), (1, .int l1), (3, .int l3), (4, .int l4)] → WW H locs 0 0 (F0 m 113 ls [])))) (by
    intro F ih z r hf hr q l3 l4 hz
    subst hz
    obtain rfl := hr
    · intro hq H locs ls hP hS hl
      subst hq
      refine (hWW _ _ _ _ _).mp ?_
      replace hf := x_ip rfl hf
      refine lv_iload hx hb dX0_isSoundAt_113 (lv_at hl 3 rfl) ?_
      refine lv_aload_n hx hb dX0_isSoundAt_115 rfl (lv_at hl 0 rfl) ?_
      refine va_get (D := (dC, dI)) (ci := 0) (v := .ref a0_13) (C := RX0) (T := TX0) (N := 17) hx hb hts i_X0_isSoundAt_X0 hown hK hP 0 rfl rfl 13 (by decide) k_1 (fun _ h9 => h9) rfl dX0_isSoundAt_116 ?_
      refine lv_iload_n hx hb dX0_isSoundAt_119 rfl (lv_at hl 1 rfl) ?_
      obtain ⟨g_1, hf⟩ := x_gu hf
      refine va_iald hx hb hK hP 5 0 rfl rfl (x_gdin g_1) dX0_isSoundAt_120 ?_
      refine lv_icmp_ge (tgt := 154) hx hb dX0_isSoundAt_121 (by decide) (fun c_2 => ?_) (fun c_2 => ?_)
      · replace hf := x_ip c_2 hf
        refine lv_iload_n hx hb dX0_isSoundAt_154 rfl (lv_at hl 2 rfl) ?_
        obtain ⟨g_3, hf⟩ := x_gu hf
        obtain rfl := Option.some.inj hf
        exact W.zret (ty := .boolean) hx hb hr (x_01n g_3) (fun t ht hW => ⟨⟨_, (), rfl, ⟨rfl, (x_01n g_3)⟩, trivial⟩, hS.F ht⟩) hS.2.2 dX0_isSoundAt_155
      · replace hf := x_in c_2 hf
        refine lv_iload_n hx hb dX0_isSoundAt_124 rfl (lv_at hl 2 rfl) ?_
        refine lv_if_eq (tgt := 146) hx hb dX0_isSoundAt_125 (by decide) (fun c_4 => ?_) (fun c_4 => ?_)
        · replace hf := x_ip c_4 hf
          refine lv_iconst (v := 0) hx hb dX0_isSoundAt_146 (by decide) ?_
          refine lv_istore_n (lv' := [(3, .int 0), (0, .ref o0), (1, .int l1), (4, .int l4)]) hx hb dX0_isSoundAt_147 rfl hl (by decide) rfl (fun ls hl => ?_)
          refine lv_iinc (v := (l4 + 1)) (lv' := [(4, .int (l4 + 1)), (3, .int 0), (0, .ref o0), (1, .int l1)]) hx hb dX0_isSoundAt_148 hl (k := 3) rfl rfl (by decide) rfl (fun ls hl => ?_)
          refine lv_goto (tgt := 113) hx hb dX0_isSoundAt_151 (by decide) ?_
          exact (hWW _ _ _ _ _).mpr ((ih (0, 0, l4 + 1) _ hf rfl _ _ _ rfl) rfl H locs ls hP hS (lv_sub hl [2, 3, 1, 0] rfl))
        · replace hf := x_in c_4 hf
          refine lv_aload_n hx hb dX0_isSoundAt_128 rfl (lv_at hl 0 rfl) ?_
          refine va_get (D := (dC, dI)) (ci := 0) (v := .ref a0_11) (C := RX0) (T := TX0) (N := 17) hx hb hts i_X0_isSoundAt_X0 hown hK hP 0 rfl rfl 11 (by decide) k_2 (fun _ h9 => h9) rfl dX0_isSoundAt_129 ?_
          refine lv_iload hx hb dX0_isSoundAt_132 (lv_at hl 3 rfl) ?_
          obtain ⟨g_5, hf⟩ := x_gu hf
          refine va_iald hx hb hK hP 3 0 rfl rfl (x_gdin g_5) dX0_isSoundAt_134 ?_
          refine lv_aload_n hx hb dX0_isSoundAt_135 rfl (lv_at hl 0 rfl) ?_
          refine va_get (D := (dC, dI)) (ci := 0) (v := .int v0_10) (C := RX0) (T := TX0) (N := 17) hx hb hts i_X0_isSoundAt_X0 hown hK hP 0 rfl rfl 10 (by decide) k_3 (fun _ h9 => h9) rfl dX0_isSoundAt_136 ?_
          refine lv_icmp_ge (tgt := 146) hx hb dX0_isSoundAt_139 (by decide) (fun c_6 => ?_) (fun c_6 => ?_)
          · replace hf := x_ip c_6 hf
            refine lv_iconst (v := 0) hx hb dX0_isSoundAt_146 (by decide) ?_
            refine lv_istore_n (lv' := [(3, .int 0), (0, .ref o0), (1, .int l1), (4, .int l4)]) hx hb dX0_isSoundAt_147 rfl hl (by decide) rfl (fun ls hl => ?_)
            refine lv_iinc (v := (l4 + 1)) (lv' := [(4, .int (l4 + 1)), (3, .int 0), (0, .ref o0), (1, .int l1)]) hx hb dX0_isSoundAt_148 hl (k := 3) rfl rfl (by decide) rfl (fun ls hl => ?_)
            refine lv_goto (tgt := 113) hx hb dX0_isSoundAt_151 (by decide) ?_
            exact (hWW _ _ _ _ _).mpr ((ih (0, 0, l4 + 1) _ hf rfl _ _ _ rfl) rfl H locs ls hP hS (lv_sub hl [2, 3, 1, 0] rfl))
          · replace hf := x_in c_6 hf
            refine lv_iconst (v := 1) hx hb dX0_isSoundAt_142 (by decide) ?_
            refine lv_goto (tgt := 147) hx hb dX0_isSoundAt_143 (by decide) ?_
            refine lv_istore_n (lv' := [(3, .int 1), (0, .ref o0), (1, .int l1), (4, .int l4)]) hx hb dX0_isSoundAt_147 rfl hl (by decide) rfl (fun ls hl => ?_)
            refine lv_iinc (v := (l4 + 1)) (lv' := [(4, .int (l4 + 1)), (3, .int 1), (0, .ref o0), (1, .int l1)]) hx hb dX0_isSoundAt_148 hl (k := 3) rfl rfl (by decide) rfl (fun ls hl => ?_)
            refine lv_goto (tgt := 113) hx hb dX0_isSoundAt_151 (by decide) ?_
            exact (hWW _ _ _ _ _).mpr ((ih (0, 1, l4 + 1) _ hf rfl _ _ _ rfl) rfl H locs ls hP hS (lv_sub hl [2, 3, 1, 0] rfl)))
  refine lv_aload_n hx hb dX0_isSoundAt_0 rfl (lv_at hl 0 rfl) ?_
  refine va_get (D := (dC, dI)) (ci := 0) (v := .ref a0_7) (C := RX0) (T := TX0) (N := 17) hx hb hts i_X0_isSoundAt_X0 hown hK hP 0 rfl rfl 7 (by decide) k_4 (fun _ h9 => h9) rfl dX0_isSoundAt_1 ?_
  refine lv_iload_n hx hb dX0_isSoundAt_4 rfl (lv_at hl 1 rfl) ?_
  obtain ⟨g_7, hf⟩ := x_gu hf
  refine va_iald hx hb hK hP 1 0 rfl rfl (x_gdin g_7) dX0_isSoundAt_5 ?_
  refine lv_istore_n (lv' := [(2, .int (g0_7 (Int32.toNatClampNeg p1))), (0, .ref o0), (1, .int p1)]) hx hb dX0_isSoundAt_6 rfl hl (by decide) rfl (fun ls hl => ?_)
  refine lv_iload_n hx hb dX0_isSoundAt_7 rfl (lv_at hl 0 rfl) ?_
  obtain ⟨r_8, h_8, hf⟩ := x_bi hf
  have hPc := hP.sub (ws' := []) [] rfl
  refine va_calli (va_runS (As := [.int (g0_7 (Int32.toNatClampNeg p1))]) (rest := []) ⟨hx, hb, hml, hown, hts⟩ (c_X0_isOfLocal l dC dI cyI cyZ cyJ H.size (g0_7 (Int32.toNatClampNeg p1)) r_8 h_8) (va_cwS 1 hts gX0_isSoundAt_X0_isOfLocal rfl rfl rfl (by decide +kernel) ⟨Nat.le_of_ble_eq_true rfl, Nat.le_of_ble_eq_true rfl⟩) (x_pS hN hK hPc) rfl rfl hl.1 rfl (lv_room (Nat.le_of_ble_eq_true rfl)) dX0_isSoundAt_8 ⟨Nat.le_of_ble_eq_true rfl, Nat.le_of_ble_eq_true rfl⟩) hS x_nA (x_nf hA hS) (fun q_8 u t H1 locs ht hvm hw hB hz1 hk1 hS => ?_)
  have hP := x_kp hP hk1
  clear ht hvm hB hz1 hk1 t u hPc
  generalize H1 = H at hP hS ⊢
  obtain ⟨hw, b_8⟩ := hw
  obtain rfl := hw.symm
  refine lv_if_eq (tgt := 49) hx hb dX0_isSoundAt_11 (by decide) (fun c_9 => ?_) (fun c_9 => ?_)
  · replace hf := x_ip c_9 hf
    refine lv_iload_n hx hb dX0_isSoundAt_49 rfl (lv_at hl 0 rfl) ?_
    obtain ⟨r_10, h_10, hf⟩ := x_bi hf
    have hPc := hP.sub (ws' := []) [] rfl
    refine va_calli (va_runS (As := [.int (g0_7 (Int32.toNatClampNeg p1))]) (rest := []) ⟨hx, hb, hml, hown, hts⟩ (c_X0_isJump l dC dI cyI cyZ cyJ H.size (g0_7 (Int32.toNatClampNeg p1)) r_10 h_10) (va_cwS 1 hts gX0_isSoundAt_X0_isJump rfl rfl rfl (by decide +kernel) ⟨Nat.le_of_ble_eq_true rfl, Nat.le_of_ble_eq_true rfl⟩) (x_pS hN hK hPc) rfl rfl hl.1 rfl (lv_room (Nat.le_of_ble_eq_true rfl)) dX0_isSoundAt_50 ⟨Nat.le_of_ble_eq_true rfl, Nat.le_of_ble_eq_true rfl⟩) hS x_nA (x_nf hA hS) (fun q_10 u t H1 locs ht hvm hw hB hz1 hk1 hS => ?_)
    have hP := x_kp hP hk1
    clear ht hvm hB hz1 hk1 t u hPc
    generalize H1 = H at hP hS ⊢
    obtain ⟨hw, b_10⟩ := hw
    obtain rfl := hw.symm
    refine lv_if_eq (tgt := 75) hx hb dX0_isSoundAt_53 (by decide) (fun c_11 => ?_) (fun c_11 => ?_)
    · replace hf := x_ip c_11 hf
      refine lv_iload_n hx hb dX0_isSoundAt_75 rfl (lv_at hl 0 rfl) ?_
      obtain ⟨r_12, h_12, hf⟩ := x_bi hf
      have hPc := hP.sub (ws' := []) [] rfl
      refine va_calli (va_runS (As := [.int (g0_7 (Int32.toNatClampNeg p1))]) (rest := []) ⟨hx, hb, hml, hown, hts⟩ (c_X0_isSwitch l dC dI cyI cyZ cyJ H.size (g0_7 (Int32.toNatClampNeg p1)) r_12 h_12) (va_cwS 1 hts gX0_isSoundAt_X0_isSwitch rfl rfl rfl (by decide +kernel) ⟨Nat.le_of_ble_eq_true rfl, Nat.le_of_ble_eq_true rfl⟩) (x_pS hN hK hPc) rfl rfl hl.1 rfl (lv_room (Nat.le_of_ble_eq_true rfl)) dX0_isSoundAt_76 ⟨Nat.le_of_ble_eq_true rfl, Nat.le_of_ble_eq_true rfl⟩) hS x_nA (x_nf hA hS) (fun q_12 u t H1 locs ht hvm hw hB hz1 hk1 hS => ?_)
      have hP := x_kp hP hk1
      clear ht hvm hB hz1 hk1 t u hPc
      generalize H1 = H at hP hS ⊢
      obtain ⟨hw, b_12⟩ := hw
      obtain rfl := hw.symm
      refine lv_if_ne (tgt := 84) hx hb dX0_isSoundAt_79 (by decide) (fun c_13 => ?_) (fun c_13 => ?_)
      · replace hf := x_in c_13 hf
        refine lv_aload_n hx hb dX0_isSoundAt_84 rfl (lv_at hl 1 rfl) ?_
        refine va_get (D := (dC, dI)) (ci := 0) (v := .ref a0_12) (C := RX0) (T := TX0) (N := 17) hx hb hts i_X0_isSoundAt_X0 hown hK hP 0 rfl rfl 12 (by decide) k_5 (fun _ h9 => h9) rfl dX0_isSoundAt_85 ?_
        refine lv_iload_n hx hb dX0_isSoundAt_88 rfl (lv_at hl 2 rfl) ?_
        obtain ⟨g_14, hf⟩ := x_gu hf
        refine va_iald hx hb hK hP 4 0 rfl rfl (x_gdin g_14) dX0_isSoundAt_89 ?_
        refine lv_aload_n hx hb dX0_isSoundAt_90 rfl (lv_at hl 1 rfl) ?_
        refine va_get (D := (dC, dI)) (ci := 0) (v := .ref a0_13) (C := RX0) (T := TX0) (N := 17) hx hb hts i_X0_isSoundAt_X0 hown hK hP 0 rfl rfl 13 (by decide) k_1 (fun _ h9 => h9) rfl dX0_isSoundAt_91 ?_
        refine lv_iload_n hx hb dX0_isSoundAt_94 rfl (lv_at hl 2 rfl) ?_
        obtain ⟨g_15, hf⟩ := x_gu hf
        refine va_iald hx hb hK hP 5 0 rfl rfl (x_gdin g_15) dX0_isSoundAt_95 ?_
        refine lv_icmp_ge (tgt := 103) hx hb dX0_isSoundAt_96 (by decide) (fun c_16 => ?_) (fun c_16 => ?_)
        · replace hf := x_ip c_16 hf
          refine lv_iconst (v := 0) hx hb dX0_isSoundAt_103 (by decide) ?_
          refine lv_istore_n (lv' := [(3, .int 0), (2, .int (g0_7 (Int32.toNatClampNeg p1))), (0, .ref o0), (1, .int p1)]) hx hb dX0_isSoundAt_104 rfl hl (by decide) rfl (fun ls hl => ?_)
          refine lv_aload_n hx hb dX0_isSoundAt_105 rfl (lv_at hl 2 rfl) ?_
          refine va_get (D := (dC, dI)) (ci := 0) (v := .ref a0_12) (C := RX0) (T := TX0) (N := 17) hx hb hts i_X0_isSoundAt_X0 hown hK hP 0 rfl rfl 12 (by decide) k_5 (fun _ h9 => h9) rfl dX0_isSoundAt_106 ?_
          refine lv_iload_n hx hb dX0_isSoundAt_109 rfl (lv_at hl 3 rfl) ?_
          obtain ⟨g_17, hf⟩ := x_gu hf
          refine va_iald hx hb hK hP 4 0 rfl rfl (x_gdin g_17) dX0_isSoundAt_110 ?_
          refine lv_istore (lv' := [(4, .int (g0_12 (Int32.toNatClampNeg p1))), (3, .int 0), (2, .int (g0_7 (Int32.toNatClampNeg p1))), (0, .ref o0), (1, .int p1)]) hx hb dX0_isSoundAt_111 hl (by decide) rfl (fun ls hl => ?_)
          exact (hWW _ _ _ _ _).mpr ((J p1 (0, 0, g0_12 (Int32.toNatClampNeg p1)) _ hf rfl _ _ _ rfl) rfl H locs ls hP hS (lv_sub hl [3, 4, 1, 0] rfl))
        · replace hf := x_in c_16 hf
          refine lv_iconst (v := 1) hx hb dX0_isSoundAt_99 (by decide) ?_
          refine lv_goto (tgt := 104) hx hb dX0_isSoundAt_100 (by decide) ?_
          refine lv_istore_n (lv' := [(3, .int 1), (2, .int (g0_7 (Int32.toNatClampNeg p1))), (0, .ref o0), (1, .int p1)]) hx hb dX0_isSoundAt_104 rfl hl (by decide) rfl (fun ls hl => ?_)
          refine lv_aload_n hx hb dX0_isSoundAt_105 rfl (lv_at hl 2 rfl) ?_
          refine va_get (D := (dC, dI)) (ci := 0) (v := .ref a0_12) (C := RX0) (T := TX0) (N := 17) hx hb hts i_X0_isSoundAt_X0 hown hK hP 0 rfl rfl 12 (by decide) k_5 (fun _ h9 => h9) rfl dX0_isSoundAt_106 ?_
          refine lv_iload_n hx hb dX0_isSoundAt_109 rfl (lv_at hl 3 rfl) ?_
          obtain ⟨g_18, hf⟩ := x_gu hf
          refine va_iald hx hb hK hP 4 0 rfl rfl (x_gdin g_18) dX0_isSoundAt_110 ?_
          refine lv_istore (lv' := [(4, .int (g0_12 (Int32.toNatClampNeg p1))), (3, .int 1), (2, .int (g0_7 (Int32.toNatClampNeg p1))), (0, .ref o0), (1, .int p1)]) hx hb dX0_isSoundAt_111 hl (by decide) rfl (fun ls hl => ?_)
          exact (hWW _ _ _ _ _).mpr ((J p1 (0, 1, g0_12 (Int32.toNatClampNeg p1)) _ hf rfl _ _ _ rfl) rfl H locs ls hP hS (lv_sub hl [3, 4, 1, 0] rfl))
      · replace hf := x_ip c_13 hf
        refine lv_iconst (v := 1) hx hb dX0_isSoundAt_82 (by decide) ?_
        obtain rfl := Option.some.inj hf
        exact W.zret (ty := .boolean) hx hb hr rfl (fun t ht hW => ⟨⟨_, (), rfl, ⟨rfl, rfl⟩, trivial⟩, hS.F ht⟩) hS.2.2 dX0_isSoundAt_83
    · replace hf := x_in c_11 hf
      refine lv_aload_n hx hb dX0_isSoundAt_56 rfl (lv_at hl 1 rfl) ?_
      refine va_get (D := (dC, dI)) (ci := 0) (v := .ref a0_8) (C := RX0) (T := TX0) (N := 17) hx hb hts i_X0_isSoundAt_X0 hown hK hP 0 rfl rfl 8 (by decide) k_6 (fun _ h9 => h9) rfl dX0_isSoundAt_57 ?_
      refine lv_iload_n hx hb dX0_isSoundAt_60 rfl (lv_at hl 2 rfl) ?_
      obtain ⟨g_19, hf⟩ := x_gu hf
      refine va_iald hx hb hK hP 2 0 rfl rfl (x_gdin g_19) dX0_isSoundAt_61 ?_
      refine lv_aload_n hx hb dX0_isSoundAt_62 rfl (lv_at hl 1 rfl) ?_
      refine va_get (D := (dC, dI)) (ci := 0) (v := .int v0_10) (C := RX0) (T := TX0) (N := 17) hx hb hts i_X0_isSoundAt_X0 hown hK hP 0 rfl rfl 10 (by decide) k_3 (fun _ h9 => h9) rfl dX0_isSoundAt_63 ?_
      refine lv_icmp_ge (tgt := 73) hx hb dX0_isSoundAt_66 (by decide) (fun c_20 => ?_) (fun c_20 => ?_)
      · replace hf := x_ip c_20 hf
        refine lv_iconst (v := 0) hx hb dX0_isSoundAt_73 (by decide) ?_
        obtain rfl := Option.some.inj hf
        exact W.zret (ty := .boolean) hx hb hr rfl (fun t ht hW => ⟨⟨_, (), rfl, ⟨rfl, rfl⟩, trivial⟩, hS.F ht⟩) hS.2.2 dX0_isSoundAt_74
      · replace hf := x_in c_20 hf
        refine lv_iconst (v := 1) hx hb dX0_isSoundAt_69 (by decide) ?_
        refine lv_goto (tgt := 74) hx hb dX0_isSoundAt_70 (by decide) ?_
        obtain rfl := Option.some.inj hf
        exact W.zret (ty := .boolean) hx hb hr rfl (fun t ht hW => ⟨⟨_, (), rfl, ⟨rfl, rfl⟩, trivial⟩, hS.F ht⟩) hS.2.2 dX0_isSoundAt_74
  · replace hf := x_in c_9 hf
    refine lv_aload_n hx hb dX0_isSoundAt_14 rfl (lv_at hl 1 rfl) ?_
    refine va_get (D := (dC, dI)) (ci := 0) (v := .ref a0_8) (C := RX0) (T := TX0) (N := 17) hx hb hts i_X0_isSoundAt_X0 hown hK hP 0 rfl rfl 8 (by decide) k_6 (fun _ h9 => h9) rfl dX0_isSoundAt_15 ?_
    refine lv_iload_n hx hb dX0_isSoundAt_18 rfl (lv_at hl 2 rfl) ?_
    obtain ⟨g_21, hf⟩ := x_gu hf
    refine va_iald hx hb hK hP 2 0 rfl rfl (x_gdin g_21) dX0_isSoundAt_19 ?_
    refine lv_iload_n hx hb dX0_isSoundAt_20 rfl (lv_at hl 0 rfl) ?_
    obtain ⟨r_22, h_22, hf⟩ := x_bi hf
    have hPc := hP.sub (ws' := []) [] rfl
    refine va_calli (va_runS (As := [.int (g0_7 (Int32.toNatClampNeg p1))]) (rest := [.int (g0_8 (Int32.toNatClampNeg p1))]) ⟨hx, hb, hml, hown, hts⟩ (c_X0_isOfWideLocal l dC dI cyI cyZ cyJ H.size (g0_7 (Int32.toNatClampNeg p1)) r_22 h_22) (va_cwS 1 hts gX0_isSoundAt_X0_isOfWideLocal rfl rfl rfl (by decide +kernel) ⟨Nat.le_of_ble_eq_true rfl, Nat.le_of_ble_eq_true rfl⟩) (x_pS hN hK hPc) rfl rfl hl.1 rfl (lv_room (Nat.le_of_ble_eq_true rfl)) dX0_isSoundAt_21 ⟨Nat.le_of_ble_eq_true rfl, Nat.le_of_ble_eq_true rfl⟩) hS x_nA (x_nf hA hS) (fun q_22 u t H1 locs ht hvm hw hB hz1 hk1 hS => ?_)
    have hP := x_kp hP hk1
    clear ht hvm hB hz1 hk1 t u hPc
    generalize H1 = H at hP hS ⊢
    obtain ⟨hw, b_22⟩ := hw
    obtain rfl := hw.symm
    refine lv_if_eq (tgt := 36) hx hb dX0_isSoundAt_24 (by decide) (fun c_23 => ?_) (fun c_23 => ?_)
    · replace hf := x_ip c_23 hf
      refine lv_aload_n hx hb dX0_isSoundAt_36 rfl (lv_at hl 1 rfl) ?_
      refine va_get (D := (dC, dI)) (ci := 0) (v := .int v0_3) (C := RX0) (T := TX0) (N := 17) hx hb hts i_X0_isSoundAt_X0 hown hK hP 0 rfl rfl 3 (by decide) k_7 (fun _ h9 => h9) rfl dX0_isSoundAt_37 ?_
      refine lv_icmp_ge (tgt := 47) hx hb dX0_isSoundAt_40 (by decide) (fun c_24 => ?_) (fun c_24 => ?_)
      · replace hf := x_ip c_24 hf
        refine lv_iconst (v := 0) hx hb dX0_isSoundAt_47 (by decide) ?_
        obtain rfl := Option.some.inj hf
        exact W.zret (ty := .boolean) hx hb hr rfl (fun t ht hW => ⟨⟨_, (), rfl, ⟨rfl, rfl⟩, trivial⟩, hS.F ht⟩) hS.2.2 dX0_isSoundAt_48
      · replace hf := x_in c_24 hf
        refine lv_iconst (v := 1) hx hb dX0_isSoundAt_43 (by decide) ?_
        refine lv_goto (tgt := 48) hx hb dX0_isSoundAt_44 (by decide) ?_
        obtain rfl := Option.some.inj hf
        exact W.zret (ty := .boolean) hx hb hr rfl (fun t ht hW => ⟨⟨_, (), rfl, ⟨rfl, rfl⟩, trivial⟩, hS.F ht⟩) hS.2.2 dX0_isSoundAt_48
    · replace hf := x_in c_23 hf
      refine lv_aload_n hx hb dX0_isSoundAt_27 rfl (lv_at hl 1 rfl) ?_
      refine va_get (D := (dC, dI)) (ci := 0) (v := .int v0_3) (C := RX0) (T := TX0) (N := 17) hx hb hts i_X0_isSoundAt_X0 hown hK hP 0 rfl rfl 3 (by decide) k_7 (fun _ h9 => h9) rfl dX0_isSoundAt_28 ?_
      refine lv_iconst (v := 1) hx hb dX0_isSoundAt_31 (by decide) ?_
      refine lv_isub hx hb dX0_isSoundAt_32 ?_
      refine lv_goto (tgt := 40) hx hb dX0_isSoundAt_33 (by decide) ?_
      refine lv_icmp_ge (tgt := 47) hx hb dX0_isSoundAt_40 (by decide) (fun c_25 => ?_) (fun c_25 => ?_)
      · replace hf := x_ip c_25 hf
        refine lv_iconst (v := 0) hx hb dX0_isSoundAt_47 (by decide) ?_
        obtain rfl := Option.some.inj hf
        exact W.zret (ty := .boolean) hx hb hr rfl (fun t ht hW => ⟨⟨_, (), rfl, ⟨rfl, rfl⟩, trivial⟩, hS.F ht⟩) hS.2.2 dX0_isSoundAt_48
      · replace hf := x_in c_25 hf
        refine lv_iconst (v := 1) hx hb dX0_isSoundAt_43 (by decide) ?_
        refine lv_goto (tgt := 48) hx hb dX0_isSoundAt_44 (by decide) ?_
        obtain rfl := Option.some.inj hf
        exact W.zret (ty := .boolean) hx hb hr rfl (fun t ht hW => ⟨⟨_, (), rfl, ⟨rfl, rfl⟩, trivial⟩, hS.F ht⟩) hS.2.2 dX0_isSoundAt_48

def f_X0_isSoundRow (v0_10 : Int32) (g0_14 : Nat → Int32) (p1 : Int32) : Option (Int32) := if x_gd ((4 : Int32) * p1) 200 = true then if x_gd (((4 : Int32) * p1) + (1 : Int32)) 200 = true then if x_gd (((4 : Int32) * p1) + (2 : Int32)) 200 = true then if v0_10 ≤ (g0_14 (Int32.toNatClampNeg ((4 : Int32) * p1))) then some 0 else if v0_10 < (g0_14 (Int32.toNatClampNeg (((4 : Int32) * p1) + (1 : Int32)))) then some 0 else if (g0_14 (Int32.toNatClampNeg (((4 : Int32) * p1) + (1 : Int32)))) ≤ (g0_14 (Int32.toNatClampNeg ((4 : Int32) * p1))) then some 0 else if v0_10 ≤ (g0_14 (Int32.toNatClampNeg (((4 : Int32) * p1) + (2 : Int32)))) then some 0 else some 1 else none else none else none
theorem i_X0_isSoundRow_X0 : ∀ w ∈ wsX00, w ∈ wsX0_isSoundRow := fun _ h => List.mem_cons_of_mem _ (List.mem_append_right _ h)
set_option maxHeartbeats 4000000 in
set_option maxRecDepth 100000 in
theorem c_X0_isSoundRow (l : Launch) (dC : Nat → ClassId) (dI : Nat → Nat → Nat) (cyI cyZ cyJ : ClassId) (sz : Nat) (o0 : Nat) (v0_0 : Int32) (v0_1 : Int32) (v0_2 : Int32) (v0_3 : Int32) (v0_4 : Int32) (a0_5 : Nat) (v0_6 : Int32) (a0_7 : Nat) (a0_8 : Nat) (a0_9 : Nat) (v0_10 : Int32) (a0_11 : Nat) (a0_12 : Nat) (a0_13 : Nat) (a0_14 : Nat) (v0_15 : Int32) (a0_16 : Nat) (g0_14 : Nat → Int32) (p1 : Int32) (R : Int32) (hf : f_X0_isSoundRow v0_10 g0_14 p1 = some R) : Met l yX0_isSoundRow wsX0_isSoundRow ({ frames := 0, cells := 0, slots := 0, locals := 0 }) (va_Pc [.ref o0, .int p1] (x_Pre (dC, dI) (x_T cyI cyZ cyJ) [(o0, .inr (0, [.int v0_0, .int v0_1, .int v0_2, .int v0_3, .int v0_4, .ref a0_5, .int v0_6, .ref a0_7, .ref a0_8, .ref a0_9, .int v0_10, .ref a0_11, .ref a0_12, .ref a0_13, .ref a0_14, .int v0_15, .ref a0_16])), (a0_14, .inl (cyI, 200, .inl g0_14))] sz)) (va_Qi (fun (r : Int32) (_ : Unit) => r = R ∧ x_nb r) (fun _ _ => True) (x_new sz)) 0 0 (x_new sz) := by
  refine Met.ofW (cc := cX0_isSoundRow) (maxL := 5) (ret := (some .boolean)) (by decide) rfl ?_
  intro p e s m args below meth c s₁ B hml hv
  obtain ⟨rfl, hsz, hP, hK, hN⟩ := hv
  have hx := B.exec
  have hb := B.bytes
  have hr := B.returns
  have hts := atoms_spec (ws := wsX0_isSoundRow) B.pre
  have hown : s.vm.findClass RX0 = some m.cls := findClass_of_methodNamed B.named
  have k_1 := hts (.fieldLink RX0 37 "FlowJudge$Code" "rows" "[I") (by decide +kernel)
  have k_2 := hts (.fieldLink RX0 59 "FlowJudge$Code" "count" "I") (by decide +kernel)
  subst hsz
  have hA : ∀ q : Nat, s.heap.size ≤ q → x_new s.heap.size q := fun _ h => h
  have hS : va_S (x_new s.heap.size) s.heap s.heap [] := va_S.rf
  have hP : va_P (dC, dI) vwCl [(o0, .inr (0, [.int v0_0, .int v0_1, .int v0_2, .int v0_3, .int v0_4, .ref a0_5, .int v0_6, .ref a0_7, .ref a0_8, .ref a0_9, .int v0_10, .ref a0_11, .ref a0_12, .ref a0_13, .ref a0_14, .int v0_15, .ref a0_16])), (a0_14, .inl (cyI, 200, .inl g0_14))] s.heap := hP
  have hl := lv_entry ([.ref o0, .int p1]) (n := 5) (Nat.le_of_ble_eq_true rfl)
  rw [lg_entry_eq]
  generalize (lg_sl ([.ref o0, .int p1]) ++ List.replicate (5 - (lg_sl ([.ref o0, .int p1])).length) Slot.unset).toArray = ls at hl ⊢
  have hl : lv_has ls 5 [(0, .ref o0), (1, .int p1)] := hl
  obtain ⟨H, hH⟩ : ∃ z, z = s.heap := ⟨_, rfl⟩
  refine x_here hH ?_
  have hP : va_P (dC, dI) vwCl [(o0, .inr (0, [.int v0_0, .int v0_1, .int v0_2, .int v0_3, .int v0_4, .ref a0_5, .int v0_6, .ref a0_7, .ref a0_8, .ref a0_9, .int v0_10, .ref a0_11, .ref a0_12, .ref a0_13, .ref a0_14, .int v0_15, .ref a0_16])), (a0_14, .inl (cyI, 200, .inl g0_14))] H := by rw [hH]; exact hP
  have hS : va_S (x_new s.heap.size) s.heap H [] := by rw [hH]; exact va_S.rf
  clear hH
  obtain ⟨locs, hlo⟩ : ∃ z : List Loc, z = [] := ⟨_, rfl⟩
  refine x_herl hlo ?_
  have hS : va_S (x_new s.heap.size) s.heap H locs := by rw [hlo]; exact hS
  clear hlo
  unfold f_X0_isSoundRow at hf
  refine lv_aload_n hx hb dX0_isSoundRow_0 rfl (lv_at hl 0 rfl) ?_
  refine va_get (D := (dC, dI)) (ci := 0) (v := .ref a0_14) (C := RX0) (T := TX0) (N := 17) hx hb hts i_X0_isSoundRow_X0 hown hK hP 0 rfl rfl 14 (by decide) k_1 (fun _ h9 => h9) rfl dX0_isSoundRow_1 ?_
  refine lv_iconst (v := 4) hx hb dX0_isSoundRow_4 (by decide) ?_
  refine lv_iload_n hx hb dX0_isSoundRow_5 rfl (lv_at hl 1 rfl) ?_
  refine lv_imul hx hb dX0_isSoundRow_6 ?_
  obtain ⟨g_1, hf⟩ := x_gu hf
  refine va_iald hx hb hK hP 1 0 rfl rfl (x_gdin g_1) dX0_isSoundRow_7 ?_
  refine lv_istore_n (lv' := [(2, .int (g0_14 (Int32.toNatClampNeg ((4 : Int32) * p1)))), (0, .ref o0), (1, .int p1)]) hx hb dX0_isSoundRow_8 rfl hl (by decide) rfl (fun ls hl => ?_)
  refine lv_aload_n hx hb dX0_isSoundRow_9 rfl (lv_at hl 1 rfl) ?_
  refine va_get (D := (dC, dI)) (ci := 0) (v := .ref a0_14) (C := RX0) (T := TX0) (N := 17) hx hb hts i_X0_isSoundRow_X0 hown hK hP 0 rfl rfl 14 (by decide) k_1 (fun _ h9 => h9) rfl dX0_isSoundRow_10 ?_
  refine lv_iconst (v := 4) hx hb dX0_isSoundRow_13 (by decide) ?_
  refine lv_iload_n hx hb dX0_isSoundRow_14 rfl (lv_at hl 2 rfl) ?_
  refine lv_imul hx hb dX0_isSoundRow_15 ?_
  refine lv_iconst (v := 1) hx hb dX0_isSoundRow_16 (by decide) ?_
  refine lv_iadd hx hb dX0_isSoundRow_17 ?_
  obtain ⟨g_2, hf⟩ := x_gu hf
  refine va_iald hx hb hK hP 1 0 rfl rfl (x_gdin g_2) dX0_isSoundRow_18 ?_
  refine lv_istore_n (lv' := [(3, .int (g0_14 (Int32.toNatClampNeg (((4 : Int32) * p1) + (1 : Int32))))), (2, .int (g0_14 (Int32.toNatClampNeg ((4 : Int32) * p1)))), (0, .ref o0), (1, .int p1)]) hx hb dX0_isSoundRow_19 rfl hl (by decide) rfl (fun ls hl => ?_)
  refine lv_aload_n hx hb dX0_isSoundRow_20 rfl (lv_at hl 2 rfl) ?_
  refine va_get (D := (dC, dI)) (ci := 0) (v := .ref a0_14) (C := RX0) (T := TX0) (N := 17) hx hb hts i_X0_isSoundRow_X0 hown hK hP 0 rfl rfl 14 (by decide) k_1 (fun _ h9 => h9) rfl dX0_isSoundRow_21 ?_
  refine lv_iconst (v := 4) hx hb dX0_isSoundRow_24 (by decide) ?_
  refine lv_iload_n hx hb dX0_isSoundRow_25 rfl (lv_at hl 3 rfl) ?_
  refine lv_imul hx hb dX0_isSoundRow_26 ?_
  refine lv_iconst (v := 2) hx hb dX0_isSoundRow_27 (by decide) ?_
  refine lv_iadd hx hb dX0_isSoundRow_28 ?_
  obtain ⟨g_3, hf⟩ := x_gu hf
  refine va_iald hx hb hK hP 1 0 rfl rfl (x_gdin g_3) dX0_isSoundRow_29 ?_
  refine lv_istore (lv' := [(4, .int (g0_14 (Int32.toNatClampNeg (((4 : Int32) * p1) + (2 : Int32))))), (3, .int (g0_14 (Int32.toNatClampNeg (((4 : Int32) * p1) + (1 : Int32))))), (2, .int (g0_14 (Int32.toNatClampNeg ((4 : Int32) * p1)))), (0, .ref o0), (1, .int p1)]) hx hb dX0_isSoundRow_30 hl (by decide) rfl (fun ls hl => ?_)
  refine lv_iload_n hx hb dX0_isSoundRow_32 rfl (lv_at hl 2 rfl) ?_
  refine lv_aload_n hx hb dX0_isSoundRow_33 rfl (lv_at hl 3 rfl) ?_
  refine va_get (D := (dC, dI)) (ci := 0) (v := .int v0_10) (C := RX0) (T := TX0) (N := 17) hx hb hts i_X0_isSoundRow_X0 hown hK hP 0 rfl rfl 10 (by decide) k_2 (fun _ h9 => h9) rfl dX0_isSoundRow_34 ?_
  refine lv_icmp_ge (tgt := 66) hx hb dX0_isSoundRow_37 (by decide) (fun c_4 => ?_) (fun c_4 => ?_)
  · replace hf := x_ip c_4 hf
    refine lv_iconst (v := 0) hx hb dX0_isSoundRow_66 (by decide) ?_
    obtain rfl := Option.some.inj hf
    exact W.zret (ty := .boolean) hx hb hr rfl (fun t ht hW => ⟨⟨_, (), rfl, ⟨rfl, rfl⟩, trivial⟩, hS.F ht⟩) hS.2.2 dX0_isSoundRow_67
  · replace hf := x_in c_4 hf
    refine lv_iload_n hx hb dX0_isSoundRow_40 rfl (lv_at hl 1 rfl) ?_
    refine lv_aload_n hx hb dX0_isSoundRow_41 rfl (lv_at hl 3 rfl) ?_
    refine va_get (D := (dC, dI)) (ci := 0) (v := .int v0_10) (C := RX0) (T := TX0) (N := 17) hx hb hts i_X0_isSoundRow_X0 hown hK hP 0 rfl rfl 10 (by decide) k_2 (fun _ h9 => h9) rfl dX0_isSoundRow_42 ?_
    refine lv_icmp_gt (tgt := 66) hx hb dX0_isSoundRow_45 (by decide) (fun c_5 => ?_) (fun c_5 => ?_)
    · replace hf := x_ip c_5 hf
      refine lv_iconst (v := 0) hx hb dX0_isSoundRow_66 (by decide) ?_
      obtain rfl := Option.some.inj hf
      exact W.zret (ty := .boolean) hx hb hr rfl (fun t ht hW => ⟨⟨_, (), rfl, ⟨rfl, rfl⟩, trivial⟩, hS.F ht⟩) hS.2.2 dX0_isSoundRow_67
    · replace hf := x_in c_5 hf
      refine lv_iload_n hx hb dX0_isSoundRow_48 rfl (lv_at hl 2 rfl) ?_
      refine lv_iload_n hx hb dX0_isSoundRow_49 rfl (lv_at hl 1 rfl) ?_
      refine lv_icmp_ge (tgt := 66) hx hb dX0_isSoundRow_50 (by decide) (fun c_6 => ?_) (fun c_6 => ?_)
      · replace hf := x_ip c_6 hf
        refine lv_iconst (v := 0) hx hb dX0_isSoundRow_66 (by decide) ?_
        obtain rfl := Option.some.inj hf
        exact W.zret (ty := .boolean) hx hb hr rfl (fun t ht hW => ⟨⟨_, (), rfl, ⟨rfl, rfl⟩, trivial⟩, hS.F ht⟩) hS.2.2 dX0_isSoundRow_67
      · replace hf := x_in c_6 hf
        refine lv_iload hx hb dX0_isSoundRow_53 (lv_at hl 0 rfl) ?_
        refine lv_aload_n hx hb dX0_isSoundRow_55 rfl (lv_at hl 3 rfl) ?_
        refine va_get (D := (dC, dI)) (ci := 0) (v := .int v0_10) (C := RX0) (T := TX0) (N := 17) hx hb hts i_X0_isSoundRow_X0 hown hK hP 0 rfl rfl 10 (by decide) k_2 (fun _ h9 => h9) rfl dX0_isSoundRow_56 ?_
        refine lv_icmp_ge (tgt := 66) hx hb dX0_isSoundRow_59 (by decide) (fun c_7 => ?_) (fun c_7 => ?_)
        · replace hf := x_ip c_7 hf
          refine lv_iconst (v := 0) hx hb dX0_isSoundRow_66 (by decide) ?_
          obtain rfl := Option.some.inj hf
          exact W.zret (ty := .boolean) hx hb hr rfl (fun t ht hW => ⟨⟨_, (), rfl, ⟨rfl, rfl⟩, trivial⟩, hS.F ht⟩) hS.2.2 dX0_isSoundRow_67
        · replace hf := x_in c_7 hf
          refine lv_iconst (v := 1) hx hb dX0_isSoundRow_62 (by decide) ?_
          refine lv_goto (tgt := 67) hx hb dX0_isSoundRow_63 (by decide) ?_
          obtain rfl := Option.some.inj hf
          exact W.zret (ty := .boolean) hx hb hr rfl (fun t ht hW => ⟨⟨_, (), rfl, ⟨rfl, rfl⟩, trivial⟩, hS.F ht⟩) hS.2.2 dX0_isSoundRow_67

def f_X0_isSound_L (v0_1 : Int32) (v0_3 : Int32) (v0_6 : Int32) (v0_10 : Int32) (v0_15 : Int32) (g0_5 : Nat → Int32) (g0_7 : Nat → Int32) (g0_8 : Nat → Int32) (g0_11 : Nat → Int32) (n0_11 : Nat) (g0_12 : Nat → Int32) (g0_13 : Nat → Int32) (g0_14 : Nat → Int32) (z : Nat × Int32 × Int32) : Option (Int32) := match z with
  | (q, l1, l2) => if q = 0 then if v0_10 ≤ l2 then (f_X0_isSound_L v0_1 v0_3 v0_6 v0_10 v0_15 g0_5 g0_7 g0_8 g0_11 n0_11 g0_12 g0_13 g0_14 (1, l1, 0)) else if l1 = (0 : Int32) then (f_X0_isSound_L v0_1 v0_3 v0_6 v0_10 v0_15 g0_5 g0_7 g0_8 g0_11 n0_11 g0_12 g0_13 g0_14 (1, l1, 0)) else (f_X0_isSoundAt v0_3 v0_10 g0_7 g0_8 g0_11 n0_11 g0_12 g0_13 l2) >>= (fun r_3 => (f_X0_isSound_L v0_1 v0_3 v0_6 v0_10 v0_15 g0_5 g0_7 g0_8 g0_11 n0_11 g0_12 g0_13 g0_14 (0, r_3, l2 + 1))) else if q = 1 then if v0_15 ≤ l2 then if x_01 l1 = true then some l1 else none else if l1 = (0 : Int32) then if x_01 l1 = true then some l1 else none else (f_X0_isSoundRow v0_10 g0_14 l2) >>= (fun r_8 => (f_X0_isSound_L v0_1 v0_3 v0_6 v0_10 v0_15 g0_5 g0_7 g0_8 g0_11 n0_11 g0_12 g0_13 g0_14 (1, r_8, l2 + 1))) else none
partial_fixpoint
def f_X0_isSound (v0_1 : Int32) (v0_3 : Int32) (v0_6 : Int32) (v0_10 : Int32) (v0_15 : Int32) (g0_5 : Nat → Int32) (g0_7 : Nat → Int32) (g0_8 : Nat → Int32) (g0_11 : Nat → Int32) (n0_11 : Nat) (g0_12 : Nat → Int32) (g0_13 : Nat → Int32) (g0_14 : Nat → Int32) : Option (Int32) := if v0_10 ≤ (0 : Int32) then (f_X0_isSound_L v0_1 v0_3 v0_6 v0_10 v0_15 g0_5 g0_7 g0_8 g0_11 n0_11 g0_12 g0_13 g0_14 (0, 0, 0)) else (f_X0_argumentPlaces v0_1 v0_6 g0_5) >>= (fun r_10 => if v0_3 < r_10 then (f_X0_isSound_L v0_1 v0_3 v0_6 v0_10 v0_15 g0_5 g0_7 g0_8 g0_11 n0_11 g0_12 g0_13 g0_14 (0, 0, 0)) else (f_X0_isSound_L v0_1 v0_3 v0_6 v0_10 v0_15 g0_5 g0_7 g0_8 g0_11 n0_11 g0_12 g0_13 g0_14 (0, 1, 0)))
theorem i_X0_isSound_X0 : ∀ w ∈ wsX00, w ∈ wsX0_isSound := fun _ h => List.mem_cons_of_mem _ (List.mem_append_right _ h)
set_option maxHeartbeats 4000000 in
set_option maxRecDepth 100000 in
theorem c_X0_isSound (l : Launch) (dC : Nat → ClassId) (dI : Nat → Nat → Nat) (cyI cyZ cyJ : ClassId) (sz : Nat) (o0 : Nat) (v0_0 : Int32) (v0_1 : Int32) (v0_2 : Int32) (v0_3 : Int32) (v0_4 : Int32) (a0_5 : Nat) (v0_6 : Int32) (a0_7 : Nat) (a0_8 : Nat) (a0_9 : Nat) (v0_10 : Int32) (a0_11 : Nat) (a0_12 : Nat) (a0_13 : Nat) (a0_14 : Nat) (v0_15 : Int32) (a0_16 : Nat) (g0_5 : Nat → Int32) (g0_7 : Nat → Int32) (g0_8 : Nat → Int32) (g0_11 : Nat → Int32) (n0_11 : Nat) (g0_12 : Nat → Int32) (g0_13 : Nat → Int32) (g0_14 : Nat → Int32) (R : Int32) (hf : f_X0_isSound v0_1 v0_3 v0_6 v0_10 v0_15 g0_5 g0_7 g0_8 g0_11 n0_11 g0_12 g0_13 g0_14 = some R) : Met l yX0_isSound wsX0_isSound ({ frames := 2, cells := 0, slots := 0, locals := 44 }) (va_Pc [.ref o0] (x_Pre (dC, dI) (x_T cyI cyZ cyJ) [(o0, .inr (0, [.int v0_0, .int v0_1, .int v0_2, .int v0_3, .int v0_4, .ref a0_5, .int v0_6, .ref a0_7, .ref a0_8, .ref a0_9, .int v0_10, .ref a0_11, .ref a0_12, .ref a0_13, .ref a0_14, .int v0_15, .ref a0_16])), (a0_5, .inl (cyI, 20, .inl g0_5)), (a0_7, .inl (cyI, 1000, .inl g0_7)), (a0_8, .inl (cyI, 1000, .inl g0_8)), (a0_11, .inl (cyI, n0_11, .inl g0_11)), (a0_12, .inl (cyI, 1000, .inl g0_12)), (a0_13, .inl (cyI, 1000, .inl g0_13)), (a0_14, .inl (cyI, 200, .inl g0_14))] sz)) (va_Qi (fun (r : Int32) (_ : Unit) => r = R ∧ x_nb r) (fun _ _ => True) (x_new sz)) 0 0 (x_new sz) := by
  refine Met.ofW (cc := cX0_isSound) (maxL := 3) (ret := (some .boolean)) (by decide) rfl ?_
  intro p e s m args below meth c s₁ B hml hv
  obtain ⟨rfl, hsz, hP, hK, hN⟩ := hv
  have hx := B.exec
  have hb := B.bytes
  have hr := B.returns
  have hts := atoms_spec (ws := wsX0_isSound) B.pre
  have hown : s.vm.findClass RX0 = some m.cls := findClass_of_methodNamed B.named
  have k_1 := hts (.fieldLink RX0 59 "FlowJudge$Code" "count" "I") (by decide +kernel)
  have k_2 := hts (.fieldLink RX0 62 "FlowJudge$Code" "rowCount" "I") (by decide +kernel)
  have k_3 := hts (.fieldLink RX0 50 "FlowJudge$Code" "locals" "I") (by decide +kernel)
  subst hsz
  have hA : ∀ q : Nat, s.heap.size ≤ q → x_new s.heap.size q := fun _ h => h
  have hS : va_S (x_new s.heap.size) s.heap s.heap [] := va_S.rf
  have hP : va_P (dC, dI) vwCl [(o0, .inr (0, [.int v0_0, .int v0_1, .int v0_2, .int v0_3, .int v0_4, .ref a0_5, .int v0_6, .ref a0_7, .ref a0_8, .ref a0_9, .int v0_10, .ref a0_11, .ref a0_12, .ref a0_13, .ref a0_14, .int v0_15, .ref a0_16])), (a0_5, .inl (cyI, 20, .inl g0_5)), (a0_7, .inl (cyI, 1000, .inl g0_7)), (a0_8, .inl (cyI, 1000, .inl g0_8)), (a0_11, .inl (cyI, n0_11, .inl g0_11)), (a0_12, .inl (cyI, 1000, .inl g0_12)), (a0_13, .inl (cyI, 1000, .inl g0_13)), (a0_14, .inl (cyI, 200, .inl g0_14))] s.heap := hP
  have hl := lv_entry ([.ref o0]) (n := 3) (Nat.le_of_ble_eq_true rfl)
  rw [lg_entry_eq]
  generalize (lg_sl ([.ref o0]) ++ List.replicate (3 - (lg_sl ([.ref o0])).length) Slot.unset).toArray = ls at hl ⊢
  have hl : lv_has ls 3 [(0, .ref o0)] := hl
  obtain ⟨H, hH⟩ : ∃ z, z = s.heap := ⟨_, rfl⟩
  refine x_here hH ?_
  have hP : va_P (dC, dI) vwCl [(o0, .inr (0, [.int v0_0, .int v0_1, .int v0_2, .int v0_3, .int v0_4, .ref a0_5, .int v0_6, .ref a0_7, .ref a0_8, .ref a0_9, .int v0_10, .ref a0_11, .ref a0_12, .ref a0_13, .ref a0_14, .int v0_15, .ref a0_16])), (a0_5, .inl (cyI, 20, .inl g0_5)), (a0_7, .inl (cyI, 1000, .inl g0_7)), (a0_8, .inl (cyI, 1000, .inl g0_8)), (a0_11, .inl (cyI, n0_11, .inl g0_11)), (a0_12, .inl (cyI, 1000, .inl g0_12)), (a0_13, .inl (cyI, 1000, .inl g0_13)), (a0_14, .inl (cyI, 200, .inl g0_14))] H := by rw [hH]; exact hP
  have hS : va_S (x_new s.heap.size) s.heap H [] := by rw [hH]; exact va_S.rf
  clear hH
  obtain ⟨locs, hlo⟩ : ∃ z : List Loc, z = [] := ⟨_, rfl⟩
  refine x_herl hlo ?_
  have hS : va_S (x_new s.heap.size) s.heap H locs := by rw [hlo]; exact hS
  clear hlo
  unfold f_X0_isSound at hf
  refine x_wn (fun WW hWW => ?_)
  have J := f_X0_isSound_L.partial_correctness v0_1 v0_3 v0_6 v0_10 v0_15 g0_5 g0_7 g0_8 g0_11 n0_11 g0_12 g0_13 g0_14 (fun (z : Nat × Int32 × Int32) (r : Int32) => r = R → ∀ (q : Nat) (l1 : Int32) (l2 : Int32), z = (q, l1, l2) → ((q = 0 → ∀ (H : Heap) (locs : List Loc) (ls : Array Slot), va_P (dC, dI) vwCl [(o0, .inr (0, [.int v0_0, .int v0_1, .int v0_2, .int v0_3, .int v0_4, .ref a0_5, .int v0_6, .ref a0_7, .ref a0_8, .ref a0_9, .int v0_10, .ref a0_11, .ref a0_12, .ref a0_13, .ref a0_14, .int v0_15, .ref a0_16])), (a0_5, .inl (cyI, 20, .inl g0_5)), (a0_7, .inl (cyI, 1000, .inl g0_7)), (a0_8, .inl (cyI, 1000, .inl g0_8)), (a0_11, .inl (cyI, n0_11, .inl g0_11)), (a0_12, .inl (cyI, 1000, .inl g0_12)), (a0_13, .inl (cyI, 1000, .inl g0_13)), (a0_14, .inl (cyI, 200, .inl g0_14))] H → va_S (x_new s.heap.size) s.heap H locs → lv_has ls 3 [(0, .ref o0), (1, .int l1), (2, .int l2)] → WW H locs 0 0 (F0 m 26 ls [])) ∧ (q = 1 → ∀ (H : Heap) (locs : List Loc) (ls : Array Slot), va_P (dC, dI) vwCl [(o0, .inr (0, [.int v0_0, .int v0_1, .int v0_2, .int v0_3, .int v0_4, .ref a0_5, .int v0_6, .ref a0_7, .ref a0_8, .ref a0_9, .int v0_10, .ref a0_11, .ref a0_12, .ref a0_13, .ref a0_14, .int v0_15, .ref a0_16])), (a0_5, .inl (cyI, 20, .inl g0_5)), (a0_7, .inl (cyI, 1000, .inl g0_7)), (a0_8, .inl (cyI, 1000, .inl g0_8)), (a0_11, .inl (cyI, n0_11, .inl g0_11)), (a0_12, .inl (cyI, 1000, .inl g0_12)), (a0_13, .inl (cyI, 1000, .inl g0_13)), (a0_14, .inl (cyI, 200, .inl g0_14))] H → va_S (x_new s.heap.size) s.heap H locs → lv_has ls 3 [(0, .ref o0), (1, .int l1), (2, .int l2)] → WW H locs 0 0 (F0 m 52 ls [])))) (by
    intro F ih z r hf hr q l1 l2 hz
    subst hz
    obtain rfl := hr
    refine ⟨?_, ?_⟩
    · intro hq H locs ls hP hS hl
      subst hq
      refine (hWW _ _ _ _ _).mp ?_
      replace hf := x_ip rfl hf
      refine lv_iload_n hx hb dX0_isSound_26 rfl (lv_at hl 2 rfl) ?_
      refine lv_aload_n hx hb dX0_isSound_27 rfl (lv_at hl 0 rfl) ?_
      refine va_get (D := (dC, dI)) (ci := 0) (v := .int v0_10) (C := RX0) (T := TX0) (N := 17) hx hb hts i_X0_isSound_X0 hown hK hP 0 rfl rfl 10 (by decide) k_1 (fun _ h9 => h9) rfl dX0_isSound_28 ?_
      refine lv_icmp_ge (tgt := 50) hx hb dX0_isSound_31 (by decide) (fun c_1 => ?_) (fun c_1 => ?_)
      · replace hf := x_ip c_1 hf
        refine lv_iconst (v := 0) hx hb dX0_isSound_50 (by decide) ?_
        refine lv_istore_n (lv' := [(2, .int 0), (0, .ref o0), (1, .int l1)]) hx hb dX0_isSound_51 rfl hl (by decide) rfl (fun ls hl => ?_)
        exact (hWW _ _ _ _ _).mpr ((ih (1, l1, 0) _ hf rfl _ _ _ rfl).2 rfl H locs ls hP hS (lv_sub hl [1, 2, 0] rfl))
      · replace hf := x_in c_1 hf
        refine lv_iload_n hx hb dX0_isSound_34 rfl (lv_at hl 1 rfl) ?_
        refine lv_if_eq (tgt := 50) hx hb dX0_isSound_35 (by decide) (fun c_2 => ?_) (fun c_2 => ?_)
        · replace hf := x_ip c_2 hf
          refine lv_iconst (v := 0) hx hb dX0_isSound_50 (by decide) ?_
          refine lv_istore_n (lv' := [(2, .int 0), (0, .ref o0), (1, .int l1)]) hx hb dX0_isSound_51 rfl hl (by decide) rfl (fun ls hl => ?_)
          exact (hWW _ _ _ _ _).mpr ((ih (1, l1, 0) _ hf rfl _ _ _ rfl).2 rfl H locs ls hP hS (lv_sub hl [1, 2, 0] rfl))
        · replace hf := x_in c_2 hf
          refine lv_aload_n hx hb dX0_isSound_38 rfl (lv_at hl 0 rfl) ?_
          refine lv_iload_n hx hb dX0_isSound_39 rfl (lv_at hl 2 rfl) ?_
          obtain ⟨r_3, h_3, hf⟩ := x_bi hf
          have hPc := hP.sub (ws' := [(o0, .inr (0, [.int v0_0, .int v0_1, .int v0_2, .int v0_3, .int v0_4, .ref a0_5, .int v0_6, .ref a0_7, .ref a0_8, .ref a0_9, .int v0_10, .ref a0_11, .ref a0_12, .ref a0_13, .ref a0_14, .int v0_15, .ref a0_16])), (a0_7, .inl (cyI, 1000, .inl g0_7)), (a0_8, .inl (cyI, 1000, .inl g0_8)), (a0_11, .inl (cyI, n0_11, .inl g0_11)), (a0_12, .inl (cyI, 1000, .inl g0_12)), (a0_13, .inl (cyI, 1000, .inl g0_13))]) [0, 2, 3, 4, 5, 6] rfl
          refine va_calli (va_runV (As := [.int l2]) (rest := []) ⟨hx, hb, hml, hown, hts⟩ (c_X0_isSoundAt l dC dI cyI cyZ cyJ H.size o0 v0_0 v0_1 v0_2 v0_3 v0_4 a0_5 v0_6 a0_7 a0_8 a0_9 v0_10 a0_11 a0_12 a0_13 a0_14 v0_15 a0_16 g0_7 g0_8 g0_11 n0_11 g0_12 g0_13 l2 r_3 h_3) (cwV 1 hts gX0_isSound_X0_isSoundAt rfl rfl rfl (by decide +kernel) ⟨Nat.le_of_ble_eq_true rfl, Nat.le_of_ble_eq_true rfl⟩) (x_pV hN hK hPc (ci := 0) (q0 := 0) rfl rfl) rfl rfl hl.1 rfl (lv_room (Nat.le_of_ble_eq_true rfl)) dX0_isSound_40 ⟨Nat.le_of_ble_eq_true rfl, Nat.le_of_ble_eq_true rfl⟩) hS x_nA (x_nf hA hS) (fun q_3 u t H1 locs ht hvm hw hB hz1 hk1 hS => ?_)
          have hP := x_kp hP hk1
          clear ht hvm hB hz1 hk1 t u hPc
          generalize H1 = H at hP hS ⊢
          obtain ⟨hw, b_3⟩ := hw
          obtain rfl := hw.symm
          refine lv_istore_n (lv' := [(1, .int r_3), (0, .ref o0), (2, .int l2)]) hx hb dX0_isSound_43 rfl hl (by decide) rfl (fun ls hl => ?_)
          refine lv_iinc (v := (l2 + 1)) (lv' := [(2, .int (l2 + 1)), (1, .int r_3), (0, .ref o0)]) hx hb dX0_isSound_44 hl (k := 2) rfl rfl (by decide) rfl (fun ls hl => ?_)
          refine lv_goto (tgt := 26) hx hb dX0_isSound_47 (by decide) ?_
          exact (hWW _ _ _ _ _).mpr ((ih (0, r_3, l2 + 1) _ hf rfl _ _ _ rfl).1 rfl H locs ls hP hS (lv_sub hl [2, 1, 0] rfl))
    · intro hq H locs ls hP hS hl
      subst hq
      refine (hWW _ _ _ _ _).mp ?_
      replace hf := x_ip rfl (x_in (by decide) hf)
      refine lv_iload_n hx hb dX0_isSound_52 rfl (lv_at hl 2 rfl) ?_
      refine lv_aload_n hx hb dX0_isSound_53 rfl (lv_at hl 0 rfl) ?_
      refine va_get (D := (dC, dI)) (ci := 0) (v := .int v0_15) (C := RX0) (T := TX0) (N := 17) hx hb hts i_X0_isSound_X0 hown hK hP 0 rfl rfl 15 (by decide) k_2 (fun _ h9 => h9) rfl dX0_isSound_54 ?_
      refine lv_icmp_ge (tgt := 76) hx hb dX0_isSound_57 (by decide) (fun c_4 => ?_) (fun c_4 => ?_)
      · replace hf := x_ip c_4 hf
        refine lv_iload_n hx hb dX0_isSound_76 rfl (lv_at hl 1 rfl) ?_
        obtain ⟨g_5, hf⟩ := x_gu hf
        obtain rfl := Option.some.inj hf
        exact W.zret (ty := .boolean) hx hb hr (x_01n g_5) (fun t ht hW => ⟨⟨_, (), rfl, ⟨rfl, (x_01n g_5)⟩, trivial⟩, hS.F ht⟩) hS.2.2 dX0_isSound_77
      · replace hf := x_in c_4 hf
        refine lv_iload_n hx hb dX0_isSound_60 rfl (lv_at hl 1 rfl) ?_
        refine lv_if_eq (tgt := 76) hx hb dX0_isSound_61 (by decide) (fun c_6 => ?_) (fun c_6 => ?_)
        · replace hf := x_ip c_6 hf
          refine lv_iload_n hx hb dX0_isSound_76 rfl (lv_at hl 1 rfl) ?_
          obtain ⟨g_7, hf⟩ := x_gu hf
          obtain rfl := Option.some.inj hf
          exact W.zret (ty := .boolean) hx hb hr (x_01n g_7) (fun t ht hW => ⟨⟨_, (), rfl, ⟨rfl, (x_01n g_7)⟩, trivial⟩, hS.F ht⟩) hS.2.2 dX0_isSound_77
        · replace hf := x_in c_6 hf
          refine lv_aload_n hx hb dX0_isSound_64 rfl (lv_at hl 0 rfl) ?_
          refine lv_iload_n hx hb dX0_isSound_65 rfl (lv_at hl 2 rfl) ?_
          obtain ⟨r_8, h_8, hf⟩ := x_bi hf
          have hPc := hP.sub (ws' := [(o0, .inr (0, [.int v0_0, .int v0_1, .int v0_2, .int v0_3, .int v0_4, .ref a0_5, .int v0_6, .ref a0_7, .ref a0_8, .ref a0_9, .int v0_10, .ref a0_11, .ref a0_12, .ref a0_13, .ref a0_14, .int v0_15, .ref a0_16])), (a0_14, .inl (cyI, 200, .inl g0_14))]) [0, 7] rfl
          refine va_calli (va_runV (As := [.int l2]) (rest := []) ⟨hx, hb, hml, hown, hts⟩ (c_X0_isSoundRow l dC dI cyI cyZ cyJ H.size o0 v0_0 v0_1 v0_2 v0_3 v0_4 a0_5 v0_6 a0_7 a0_8 a0_9 v0_10 a0_11 a0_12 a0_13 a0_14 v0_15 a0_16 g0_14 l2 r_8 h_8) (cwV 1 hts gX0_isSound_X0_isSoundRow rfl rfl rfl (by decide +kernel) ⟨Nat.le_of_ble_eq_true rfl, Nat.le_of_ble_eq_true rfl⟩) (x_pV hN hK hPc (ci := 0) (q0 := 0) rfl rfl) rfl rfl hl.1 rfl (lv_room (Nat.le_of_ble_eq_true rfl)) dX0_isSound_66 ⟨Nat.le_of_ble_eq_true rfl, Nat.le_of_ble_eq_true rfl⟩) hS x_nA (x_nf hA hS) (fun q_8 u t H1 locs ht hvm hw hB hz1 hk1 hS => ?_)
          have hP := x_kp hP hk1
          clear ht hvm hB hz1 hk1 t u hPc
          generalize H1 = H at hP hS ⊢
          obtain ⟨hw, b_8⟩ := hw
          obtain rfl := hw.symm
          refine lv_istore_n (lv' := [(1, .int r_8), (0, .ref o0), (2, .int l2)]) hx hb dX0_isSound_69 rfl hl (by decide) rfl (fun ls hl => ?_)
          refine lv_iinc (v := (l2 + 1)) (lv' := [(2, .int (l2 + 1)), (1, .int r_8), (0, .ref o0)]) hx hb dX0_isSound_70 hl (k := 2) rfl rfl (by decide) rfl (fun ls hl => ?_)
          refine lv_goto (tgt := 52) hx hb dX0_isSound_73 (by decide) ?_
          exact (hWW _ _ _ _ _).mpr ((ih (1, r_8, l2 + 1) _ hf rfl _ _ _ rfl).2 rfl H locs ls hP hS (lv_sub hl [2, 1, 0] rfl)))
  refine lv_aload_n hx hb dX0_isSound_0 rfl (lv_at hl 0 rfl) ?_
  refine va_get (D := (dC, dI)) (ci := 0) (v := .int v0_10) (C := RX0) (T := TX0) (N := 17) hx hb hts i_X0_isSound_X0 hown hK hP 0 rfl rfl 10 (by decide) k_1 (fun _ h9 => h9) rfl dX0_isSound_1 ?_
  refine lv_if_le (tgt := 22) hx hb dX0_isSound_4 (by decide) (fun c_9 => ?_) (fun c_9 => ?_)
  · replace hf := x_ip c_9 hf
    refine lv_iconst (v := 0) hx hb dX0_isSound_22 (by decide) ?_
    refine lv_istore_n (lv' := [(1, .int 0), (0, .ref o0)]) hx hb dX0_isSound_23 rfl hl (by decide) rfl (fun ls hl => ?_)
    refine lv_iconst (v := 0) hx hb dX0_isSound_24 (by decide) ?_
    refine lv_istore_n (lv' := [(2, .int 0), (1, .int 0), (0, .ref o0)]) hx hb dX0_isSound_25 rfl hl (by decide) rfl (fun ls hl => ?_)
    exact (hWW _ _ _ _ _).mpr ((J (0, 0, 0) _ hf rfl _ _ _ rfl).1 rfl H locs ls hP hS (lv_sub hl [2, 1, 0] rfl))
  · replace hf := x_in c_9 hf
    refine lv_aload_n hx hb dX0_isSound_7 rfl (lv_at hl 0 rfl) ?_
    obtain ⟨r_10, h_10, hf⟩ := x_bi hf
    have hPc := hP.sub (ws' := [(o0, .inr (0, [.int v0_0, .int v0_1, .int v0_2, .int v0_3, .int v0_4, .ref a0_5, .int v0_6, .ref a0_7, .ref a0_8, .ref a0_9, .int v0_10, .ref a0_11, .ref a0_12, .ref a0_13, .ref a0_14, .int v0_15, .ref a0_16])), (a0_5, .inl (cyI, 20, .inl g0_5))]) [0, 1] rfl
    refine va_calli (va_runV (As := []) (rest := []) ⟨hx, hb, hml, hown, hts⟩ (c_X0_argumentPlaces l dC dI cyI cyZ cyJ H.size o0 v0_0 v0_1 v0_2 v0_3 v0_4 a0_5 v0_6 a0_7 a0_8 a0_9 v0_10 a0_11 a0_12 a0_13 a0_14 v0_15 a0_16 g0_5 r_10 h_10) (cwV 0 hts gX0_isSound_X0_argumentPlaces rfl rfl rfl (by decide +kernel) ⟨Nat.le_of_ble_eq_true rfl, Nat.le_of_ble_eq_true rfl⟩) (x_pV hN hK hPc (ci := 0) (q0 := 0) rfl rfl) rfl rfl hl.1 rfl (lv_room (Nat.le_of_ble_eq_true rfl)) dX0_isSound_8 ⟨Nat.le_of_ble_eq_true rfl, Nat.le_of_ble_eq_true rfl⟩) hS x_nA (x_nf hA hS) (fun q_10 u t H1 locs ht hvm hw hB hz1 hk1 hS => ?_)
    have hP := x_kp hP hk1
    clear ht hvm hB hz1 hk1 t u hPc
    generalize H1 = H at hP hS ⊢
    obtain rfl := hw.symm
    refine lv_aload_n hx hb dX0_isSound_11 rfl (lv_at hl 0 rfl) ?_
    refine va_get (D := (dC, dI)) (ci := 0) (v := .int v0_3) (C := RX0) (T := TX0) (N := 17) hx hb hts i_X0_isSound_X0 hown hK hP 0 rfl rfl 3 (by decide) k_3 (fun _ h9 => h9) rfl dX0_isSound_12 ?_
    refine lv_icmp_gt (tgt := 22) hx hb dX0_isSound_15 (by decide) (fun c_11 => ?_) (fun c_11 => ?_)
    · replace hf := x_ip c_11 hf
      refine lv_iconst (v := 0) hx hb dX0_isSound_22 (by decide) ?_
      refine lv_istore_n (lv' := [(1, .int 0), (0, .ref o0)]) hx hb dX0_isSound_23 rfl hl (by decide) rfl (fun ls hl => ?_)
      refine lv_iconst (v := 0) hx hb dX0_isSound_24 (by decide) ?_
      refine lv_istore_n (lv' := [(2, .int 0), (1, .int 0), (0, .ref o0)]) hx hb dX0_isSound_25 rfl hl (by decide) rfl (fun ls hl => ?_)
      exact (hWW _ _ _ _ _).mpr ((J (0, 0, 0) _ hf rfl _ _ _ rfl).1 rfl H locs ls hP hS (lv_sub hl [2, 1, 0] rfl))
    · replace hf := x_in c_11 hf
      refine lv_iconst (v := 1) hx hb dX0_isSound_18 (by decide) ?_
      refine lv_goto (tgt := 23) hx hb dX0_isSound_19 (by decide) ?_
      refine lv_istore_n (lv' := [(1, .int 1), (0, .ref o0)]) hx hb dX0_isSound_23 rfl hl (by decide) rfl (fun ls hl => ?_)
      refine lv_iconst (v := 0) hx hb dX0_isSound_24 (by decide) ?_
      refine lv_istore_n (lv' := [(2, .int 0), (1, .int 1), (0, .ref o0)]) hx hb dX0_isSound_25 rfl hl (by decide) rfl (fun ls hl => ?_)
      exact (hWW _ _ _ _ _).mpr ((J (0, 1, 0) _ hf rfl _ _ _ rfl).1 rfl H locs ls hP hS (lv_sub hl [2, 1, 0] rfl))

def f_X0_markTargets_L (v0_10 : Int32) (v0_15 : Int32) (g0_7 : Nat → Int32) (g0_8 : Nat → Int32) (g0_11 : Nat → Int32) (n0_11 : Nat) (g0_13 : Nat → Int32) (g0_14 : Nat → Int32) (z : Nat × Int32 × (Nat → Int32)) : Option ((Nat → Int32)) := match z with
  | (q, l1, g0_16) => if q = 0 then if v0_10 ≤ l1 then (f_X0_markTargets_L v0_10 v0_15 g0_7 g0_8 g0_11 n0_11 g0_13 g0_14 (1, 0, g0_16)) else if l1 = (0 : Int32) then if x_gd l1 1000 = true then (f_X0_markTargets_L v0_10 v0_15 g0_7 g0_8 g0_11 n0_11 g0_13 g0_14 (0, l1 + 1, upd g0_16 (Int32.toNatClampNeg l1) (vp_nar .boolean 1))) else none else if x_gd (l1 - (1 : Int32)) 1000 = true then if (g0_7 (Int32.toNatClampNeg (l1 - (1 : Int32)))) = (168 : Int32) then if x_gd l1 1000 = true then (f_X0_markTargets_L v0_10 v0_15 g0_7 g0_8 g0_11 n0_11 g0_13 g0_14 (0, l1 + 1, upd g0_16 (Int32.toNatClampNeg l1) (vp_nar .boolean 1))) else none else if x_gd l1 1000 = true then (f_X0_markTargets_L v0_10 v0_15 g0_7 g0_8 g0_11 n0_11 g0_13 g0_14 (0, l1 + 1, upd g0_16 (Int32.toNatClampNeg l1) (vp_nar .boolean 0))) else none else none else if q = 1 then if v0_10 ≤ l1 then (f_X0_markTargets_L v0_10 v0_15 g0_7 g0_8 g0_11 n0_11 g0_13 g0_14 (2, 0, g0_16)) else if x_gd l1 1000 = true then (f_X0_isJump (g0_7 (Int32.toNatClampNeg l1))) >>= (fun r_10 => if r_10 = (0 : Int32) then (f_X0_markTargets_L v0_10 v0_15 g0_7 g0_8 g0_11 n0_11 g0_13 g0_14 (1, l1 + 1, g0_16)) else if x_gd l1 1000 = true then if x_gd (g0_8 (Int32.toNatClampNeg l1)) 1000 = true then (f_X0_markTargets_L v0_10 v0_15 g0_7 g0_8 g0_11 n0_11 g0_13 g0_14 (1, l1 + 1, upd g0_16 (Int32.toNatClampNeg (g0_8 (Int32.toNatClampNeg l1))) (vp_nar .boolean 1))) else none else none) else none else if q = 2 then if x_gd (v0_10 - (1 : Int32)) 1000 = true then if (g0_13 (Int32.toNatClampNeg (v0_10 - (1 : Int32)))) ≤ l1 then (f_X0_markTargets_L v0_10 v0_15 g0_7 g0_8 g0_11 n0_11 g0_13 g0_14 (3, 0, g0_16)) else if x_gd l1 n0_11 = true then if x_gd (g0_11 (Int32.toNatClampNeg l1)) 1000 = true then (f_X0_markTargets_L v0_10 v0_15 g0_7 g0_8 g0_11 n0_11 g0_13 g0_14 (2, l1 + 1, upd g0_16 (Int32.toNatClampNeg (g0_11 (Int32.toNatClampNeg l1))) (vp_nar .boolean 1))) else none else none else none else if q = 3 then if v0_15 ≤ l1 then some g0_16 else if x_gd (((4 : Int32) * l1) + (2 : Int32)) 200 = true then if x_gd (g0_14 (Int32.toNatClampNeg (((4 : Int32) * l1) + (2 : Int32)))) 1000 = true then (f_X0_markTargets_L v0_10 v0_15 g0_7 g0_8 g0_11 n0_11 g0_13 g0_14 (3, l1 + 1, upd g0_16 (Int32.toNatClampNeg (g0_14 (Int32.toNatClampNeg (((4 : Int32) * l1) + (2 : Int32))))) (vp_nar .boolean 1))) else none else none else none
partial_fixpoint
def f_X0_markTargets (v0_10 : Int32) (v0_15 : Int32) (g0_7 : Nat → Int32) (g0_8 : Nat → Int32) (g0_11 : Nat → Int32) (n0_11 : Nat) (g0_13 : Nat → Int32) (g0_14 : Nat → Int32) (g0_16 : Nat → Int32) : Option ((Nat → Int32)) := (f_X0_markTargets_L v0_10 v0_15 g0_7 g0_8 g0_11 n0_11 g0_13 g0_14 (0, 0, g0_16))
theorem i_X0_markTargets_X0 : ∀ w ∈ wsX00, w ∈ wsX0_markTargets := fun _ h => List.mem_cons_of_mem _ (List.mem_append_right _ h)
set_option maxHeartbeats 4000000 in
set_option maxRecDepth 100000 in
theorem c_X0_markTargets (l : Launch) (dC : Nat → ClassId) (dI : Nat → Nat → Nat) (cyI cyZ cyJ : ClassId) (sz : Nat) (o0 : Nat) (v0_0 : Int32) (v0_1 : Int32) (v0_2 : Int32) (v0_3 : Int32) (v0_4 : Int32) (a0_5 : Nat) (v0_6 : Int32) (a0_7 : Nat) (a0_8 : Nat) (a0_9 : Nat) (v0_10 : Int32) (a0_11 : Nat) (a0_12 : Nat) (a0_13 : Nat) (a0_14 : Nat) (v0_15 : Int32) (a0_16 : Nat) (g0_7 : Nat → Int32) (g0_8 : Nat → Int32) (g0_11 : Nat → Int32) (n0_11 : Nat) (g0_13 : Nat → Int32) (g0_14 : Nat → Int32) (g0_16 : Nat → Int32) (R : (Nat → Int32)) (hf : f_X0_markTargets v0_10 v0_15 g0_7 g0_8 g0_11 n0_11 g0_13 g0_14 g0_16 = some R) : Met l yX0_markTargets wsX0_markTargets ({ frames := 1, cells := 0, slots := 0, locals := 20 }) (va_Pc [.ref o0] (x_PreD (dC, dI) (x_T cyI cyZ cyJ) [(o0, .inr (0, [.int v0_0, .int v0_1, .int v0_2, .int v0_3, .int v0_4, .ref a0_5, .int v0_6, .ref a0_7, .ref a0_8, .ref a0_9, .int v0_10, .ref a0_11, .ref a0_12, .ref a0_13, .ref a0_14, .int v0_15, .ref a0_16])), (a0_7, .inl (cyI, 1000, .inl g0_7)), (a0_8, .inl (cyI, 1000, .inl g0_8)), (a0_11, .inl (cyI, n0_11, .inl g0_11)), (a0_13, .inl (cyI, 1000, .inl g0_13)), (a0_14, .inl (cyI, 200, .inl g0_14)), (a0_16, .inl (cyZ, 1000, .inl g0_16))] sz)) (va_Qv (fun _ : Unit => True) (fun (_ : Unit) (t : State) => va_P (dC, dI) vwCl [(o0, .inr (0, [.int v0_0, .int v0_1, .int v0_2, .int v0_3, .int v0_4, .ref a0_5, .int v0_6, .ref a0_7, .ref a0_8, .ref a0_9, .int v0_10, .ref a0_11, .ref a0_12, .ref a0_13, .ref a0_14, .int v0_15, .ref a0_16])), (a0_7, .inl (cyI, 1000, .inl g0_7)), (a0_8, .inl (cyI, 1000, .inl g0_8)), (a0_11, .inl (cyI, n0_11, .inl g0_11)), (a0_13, .inl (cyI, 1000, .inl g0_13)), (a0_14, .inl (cyI, 200, .inl g0_14)), (a0_16, .inl (cyZ, 1000, .inl R))] t.heap ∧ va_K (dC, dI) vwCl (x_T cyI cyZ cyJ) t ∧ va_D (va_A [(o0, .inr (0, [.int v0_0, .int v0_1, .int v0_2, .int v0_3, .int v0_4, .ref a0_5, .int v0_6, .ref a0_7, .ref a0_8, .ref a0_9, .int v0_10, .ref a0_11, .ref a0_12, .ref a0_13, .ref a0_14, .int v0_15, .ref a0_16])), (a0_7, .inl (cyI, 1000, .inl g0_7)), (a0_8, .inl (cyI, 1000, .inl g0_8)), (a0_11, .inl (cyI, n0_11, .inl g0_11)), (a0_13, .inl (cyI, 1000, .inl g0_13)), (a0_14, .inl (cyI, 200, .inl g0_14)), (a0_16, .inl (cyZ, 1000, .inl g0_16))] sz) [(o0, .inr (0, [.int v0_0, .int v0_1, .int v0_2, .int v0_3, .int v0_4, .ref a0_5, .int v0_6, .ref a0_7, .ref a0_8, .ref a0_9, .int v0_10, .ref a0_11, .ref a0_12, .ref a0_13, .ref a0_14, .int v0_15, .ref a0_16])), (a0_7, .inl (cyI, 1000, .inl g0_7)), (a0_8, .inl (cyI, 1000, .inl g0_8)), (a0_11, .inl (cyI, n0_11, .inl g0_11)), (a0_13, .inl (cyI, 1000, .inl g0_13)), (a0_14, .inl (cyI, 200, .inl g0_14)), (a0_16, .inl (cyZ, 1000, .inl R))]) (va_A [(o0, .inr (0, [.int v0_0, .int v0_1, .int v0_2, .int v0_3, .int v0_4, .ref a0_5, .int v0_6, .ref a0_7, .ref a0_8, .ref a0_9, .int v0_10, .ref a0_11, .ref a0_12, .ref a0_13, .ref a0_14, .int v0_15, .ref a0_16])), (a0_7, .inl (cyI, 1000, .inl g0_7)), (a0_8, .inl (cyI, 1000, .inl g0_8)), (a0_11, .inl (cyI, n0_11, .inl g0_11)), (a0_13, .inl (cyI, 1000, .inl g0_13)), (a0_14, .inl (cyI, 200, .inl g0_14)), (a0_16, .inl (cyZ, 1000, .inl g0_16))] sz)) 0 0 (va_A [(o0, .inr (0, [.int v0_0, .int v0_1, .int v0_2, .int v0_3, .int v0_4, .ref a0_5, .int v0_6, .ref a0_7, .ref a0_8, .ref a0_9, .int v0_10, .ref a0_11, .ref a0_12, .ref a0_13, .ref a0_14, .int v0_15, .ref a0_16])), (a0_7, .inl (cyI, 1000, .inl g0_7)), (a0_8, .inl (cyI, 1000, .inl g0_8)), (a0_11, .inl (cyI, n0_11, .inl g0_11)), (a0_13, .inl (cyI, 1000, .inl g0_13)), (a0_14, .inl (cyI, 200, .inl g0_14)), (a0_16, .inl (cyZ, 1000, .inl g0_16))] sz) := by
  refine Met.ofW (cc := cX0_markTargets) (maxL := 2) (ret := none) (by decide) rfl ?_
  intro p e s m args below meth c s₁ B hml hv
  obtain ⟨rfl, ⟨hsz, hP, hK, hN⟩, hD0⟩ := hv
  have hx := B.exec
  have hb := B.bytes
  have hr := B.returns
  have hts := atoms_spec (ws := wsX0_markTargets) B.pre
  have hown : s.vm.findClass RX0 = some m.cls := findClass_of_methodNamed B.named
  have k_1 := hts (.fieldLink RX0 59 "FlowJudge$Code" "count" "I") (by decide +kernel)
  have k_2 := hts (.fieldLink RX0 40 "FlowJudge$Code" "isTarget" "[Z") (by decide +kernel)
  have k_3 := hts (.fieldLink RX0 19 "FlowJudge$Code" "ops" "[I") (by decide +kernel)
  have k_4 := hts (.fieldLink RX0 22 "FlowJudge$Code" "as" "[I") (by decide +kernel)
  have k_5 := hts (.fieldLink RX0 34 "FlowJudge$Code" "upToSwitched" "[I") (by decide +kernel)
  have k_6 := hts (.fieldLink RX0 28 "FlowJudge$Code" "switched" "[I") (by decide +kernel)
  have k_7 := hts (.fieldLink RX0 62 "FlowJudge$Code" "rowCount" "I") (by decide +kernel)
  have k_8 := hts (.fieldLink RX0 37 "FlowJudge$Code" "rows" "[I") (by decide +kernel)
  subst hsz
  have hD := hD0.self (sz := s.heap.size)
  generalize hAe : va_A [(o0, .inr (0, [.int v0_0, .int v0_1, .int v0_2, .int v0_3, .int v0_4, .ref a0_5, .int v0_6, .ref a0_7, .ref a0_8, .ref a0_9, .int v0_10, .ref a0_11, .ref a0_12, .ref a0_13, .ref a0_14, .int v0_15, .ref a0_16])), (a0_7, .inl (cyI, 1000, .inl g0_7)), (a0_8, .inl (cyI, 1000, .inl g0_8)), (a0_11, .inl (cyI, n0_11, .inl g0_11)), (a0_13, .inl (cyI, 1000, .inl g0_13)), (a0_14, .inl (cyI, 200, .inl g0_14)), (a0_16, .inl (cyZ, 1000, .inl g0_16))] s.heap.size = A at hD ⊢
  have hA : ∀ q : Nat, s.heap.size ≤ q → A q := fun q h => by rw [← hAe]; exact Or.inr h
  have hP : va_P (dC, dI) vwCl [(o0, .inr (0, [.int v0_0, .int v0_1, .int v0_2, .int v0_3, .int v0_4, .ref a0_5, .int v0_6, .ref a0_7, .ref a0_8, .ref a0_9, .int v0_10, .ref a0_11, .ref a0_12, .ref a0_13, .ref a0_14, .int v0_15, .ref a0_16])), (a0_7, .inl (cyI, 1000, .inl g0_7)), (a0_8, .inl (cyI, 1000, .inl g0_8)), (a0_11, .inl (cyI, n0_11, .inl g0_11)), (a0_13, .inl (cyI, 1000, .inl g0_13)), (a0_14, .inl (cyI, 200, .inl g0_14)), (a0_16, .inl (cyZ, 1000, .inl g0_16))] s.heap := hP
  have hl := lv_entry ([.ref o0]) (n := 2) (Nat.le_of_ble_eq_true rfl)
  rw [lg_entry_eq]
  generalize (lg_sl ([.ref o0]) ++ List.replicate (2 - (lg_sl ([.ref o0])).length) Slot.unset).toArray = ls at hl ⊢
  have hl : lv_has ls 2 [(0, .ref o0)] := hl
  obtain ⟨H, hH⟩ : ∃ z, z = s.heap := ⟨_, rfl⟩
  refine x_here hH ?_
  have hP : va_P (dC, dI) vwCl [(o0, .inr (0, [.int v0_0, .int v0_1, .int v0_2, .int v0_3, .int v0_4, .ref a0_5, .int v0_6, .ref a0_7, .ref a0_8, .ref a0_9, .int v0_10, .ref a0_11, .ref a0_12, .ref a0_13, .ref a0_14, .int v0_15, .ref a0_16])), (a0_7, .inl (cyI, 1000, .inl g0_7)), (a0_8, .inl (cyI, 1000, .inl g0_8)), (a0_11, .inl (cyI, n0_11, .inl g0_11)), (a0_13, .inl (cyI, 1000, .inl g0_13)), (a0_14, .inl (cyI, 200, .inl g0_14)), (a0_16, .inl (cyZ, 1000, .inl g0_16))] H := by rw [hH]; exact hP
  have hS : va_S A s.heap H [] := by rw [hH]; exact va_S.rf
  clear hH
  obtain ⟨locs, hlo⟩ : ∃ z : List Loc, z = [] := ⟨_, rfl⟩
  refine x_herl hlo ?_
  have hS : va_S A s.heap H locs := by rw [hlo]; exact hS
  clear hlo
  unfold f_X0_markTargets at hf
  refine x_wn (fun WW hWW => ?_)
  have J := f_X0_markTargets_L.partial_correctness v0_10 v0_15 g0_7 g0_8 g0_11 n0_11 g0_13 g0_14 (fun (z : Nat × Int32 × (Nat → Int32)) (r : (Nat → Int32)) => r = R → ∀ (q : Nat) (l1 : Int32) (g0_16 : Nat → Int32), z = (q, l1, g0_16) → ((q = 0 → ∀ (H : Heap) (locs : List Loc) (ls : Array Slot), va_P (dC, dI) vwCl [(o0, .inr (0, [.int v0_0, .int v0_1, .int v0_2, .int v0_3, .int v0_4, .ref a0_5, .int v0_6, .ref a0_7, .ref a0_8, .ref a0_9, .int v0_10, .ref a0_11, .ref a0_12, .ref a0_13, .ref a0_14, .int v0_15, .ref a0_16])), (a0_7, .inl (cyI, 1000, .inl g0_7)), (a0_8, .inl (cyI, 1000, .inl g0_8)), (a0_11, .inl (cyI, n0_11, .inl g0_11)), (a0_13, .inl (cyI, 1000, .inl g0_13)), (a0_14, .inl (cyI, 200, .inl g0_14)), (a0_16, .inl (cyZ, 1000, .inl g0_16))] H → va_D A [(o0, .inr (0, [.int v0_0, .int v0_1, .int v0_2, .int v0_3, .int v0_4, .ref a0_5, .int v0_6, .ref a0_7, .ref a0_8, .ref a0_9, .int v0_10, .ref a0_11, .ref a0_12, .ref a0_13, .ref a0_14, .int v0_15, .ref a0_16])), (a0_7, .inl (cyI, 1000, .inl g0_7)), (a0_8, .inl (cyI, 1000, .inl g0_8)), (a0_11, .inl (cyI, n0_11, .inl g0_11)), (a0_13, .inl (cyI, 1000, .inl g0_13)), (a0_14, .inl (cyI, 200, .inl g0_14)), (a0_16, .inl (cyZ, 1000, .inl g0_16))] → va_S A s.heap H locs → lv_has ls 2 [(0, .ref o0), (1, .int l1)] → WW H locs 0 0 (F0 m 2 ls [])) ∧ (q = 1 → ∀ (H : Heap) (locs : List Loc) (ls : Array Slot), va_P (dC, dI) vwCl [(o0, .inr (0, [.int v0_0, .int v0_1, .int v0_2, .int v0_3, .int v0_4, .ref a0_5, .int v0_6, .ref a0_7, .ref a0_8, .ref a0_9, .int v0_10, .ref a0_11, .ref a0_12, .ref a0_13, .ref a0_14, .int v0_15, .ref a0_16])), (a0_7, .inl (cyI, 1000, .inl g0_7)), (a0_8, .inl (cyI, 1000, .inl g0_8)), (a0_11, .inl (cyI, n0_11, .inl g0_11)), (a0_13, .inl (cyI, 1000, .inl g0_13)), (a0_14, .inl (cyI, 200, .inl g0_14)), (a0_16, .inl (cyZ, 1000, .inl g0_16))] H → va_D A [(o0, .inr (0, [.int v0_0, .int v0_1, .int v0_2, .int v0_3, .int v0_4, .ref a0_5, .int v0_6, .ref a0_7, .ref a0_8, .ref a0_9, .int v0_10, .ref a0_11, .ref a0_12, .ref a0_13, .ref a0_14, .int v0_15, .ref a0_16])), (a0_7, .inl (cyI, 1000, .inl g0_7)), (a0_8, .inl (cyI, 1000, .inl g0_8)), (a0_11, .inl (cyI, n0_11, .inl g0_11)), (a0_13, .inl (cyI, 1000, .inl g0_13)), (a0_14, .inl (cyI, 200, .inl g0_14)), (a0_16, .inl (cyZ, 1000, .inl g0_16))] → va_S A s.heap H locs → lv_has ls 2 [(0, .ref o0), (1, .int l1)] → WW H locs 0 0 (F0 m 47 ls [])) ∧ (q = 2 → ∀ (H : Heap) (locs : List Loc) (ls : Array Slot), va_P (dC, dI) vwCl [(o0, .inr (0, [.int v0_0, .int v0_1, .int v0_2, .int v0_3, .int v0_4, .ref a0_5, .int v0_6, .ref a0_7, .ref a0_8, .ref a0_9, .int v0_10, .ref a0_11, .ref a0_12, .ref a0_13, .ref a0_14, .int v0_15, .ref a0_16])), (a0_7, .inl (cyI, 1000, .inl g0_7)), (a0_8, .inl (cyI, 1000, .inl g0_8)), (a0_11, .inl (cyI, n0_11, .inl g0_11)), (a0_13, .inl (cyI, 1000, .inl g0_13)), (a0_14, .inl (cyI, 200, .inl g0_14)), (a0_16, .inl (cyZ, 1000, .inl g0_16))] H → va_D A [(o0, .inr (0, [.int v0_0, .int v0_1, .int v0_2, .int v0_3, .int v0_4, .ref a0_5, .int v0_6, .ref a0_7, .ref a0_8, .ref a0_9, .int v0_10, .ref a0_11, .ref a0_12, .ref a0_13, .ref a0_14, .int v0_15, .ref a0_16])), (a0_7, .inl (cyI, 1000, .inl g0_7)), (a0_8, .inl (cyI, 1000, .inl g0_8)), (a0_11, .inl (cyI, n0_11, .inl g0_11)), (a0_13, .inl (cyI, 1000, .inl g0_13)), (a0_14, .inl (cyI, 200, .inl g0_14)), (a0_16, .inl (cyZ, 1000, .inl g0_16))] → va_S A s.heap H locs → lv_has ls 2 [(0, .ref o0), (1, .int l1)] → WW H locs 0 0 (F0 m 87 ls [])) ∧ (q = 3 → ∀ (H : Heap) (locs : List Loc) (ls : Array Slot), va_P (dC, dI) vwCl [(o0, .inr (0, [.int v0_0, .int v0_1, .int v0_2, .int v0_3, .int v0_4, .ref a0_5, .int v0_6, .ref a0_7, .ref a0_8, .ref a0_9, .int v0_10, .ref a0_11, .ref a0_12, .ref a0_13, .ref a0_14, .int v0_15, .ref a0_16])), (a0_7, .inl (cyI, 1000, .inl g0_7)), (a0_8, .inl (cyI, 1000, .inl g0_8)), (a0_11, .inl (cyI, n0_11, .inl g0_11)), (a0_13, .inl (cyI, 1000, .inl g0_13)), (a0_14, .inl (cyI, 200, .inl g0_14)), (a0_16, .inl (cyZ, 1000, .inl g0_16))] H → va_D A [(o0, .inr (0, [.int v0_0, .int v0_1, .int v0_2, .int v0_3, .int v0_4, .ref a0_5, .int v0_6, .ref a0_7, .ref a0_8, .ref a0_9, .int v0_10, .ref a0_11, .ref a0_12, .ref a0_13, .ref a0_14, .int v0_15, .ref a0_16])), (a0_7, .inl (cyI, 1000, .inl g0_7)), (a0_8, .inl (cyI, 1000, .inl g0_8)), (a0_11, .inl (cyI, n0_11, .inl g0_11)), (a0_13, .inl (cyI, 1000, .inl g0_13)), (a0_14, .inl (cyI, 200, .inl g0_14)), (a0_16, .inl (cyZ, 1000, .inl g0_16))] → va_S A s.heap H locs → lv_has ls 2 [(0, .ref o0), (1, .int l1)] → WW H locs 0 0 (F0 m 122 ls [])))) (by
    intro F ih z r hf hr q l1 g0_16 hz
    subst hz
    obtain rfl := hr
    refine ⟨?_, ?_, ?_, ?_⟩
    · intro hq H locs ls hP hD hS hl
      subst hq
      refine (hWW _ _ _ _ _).mp ?_
      replace hf := x_ip rfl hf
      refine lv_iload_n hx hb dX0_markTargets_2 rfl (lv_at hl 1 rfl) ?_
      refine lv_aload_n hx hb dX0_markTargets_3 rfl (lv_at hl 0 rfl) ?_
      refine va_get (D := (dC, dI)) (ci := 0) (v := .int v0_10) (C := RX0) (T := TX0) (N := 17) hx hb hts i_X0_markTargets_X0 hown hK hP 0 rfl rfl 10 (by decide) k_1 (fun _ h9 => h9) rfl dX0_markTargets_4 ?_
      refine lv_icmp_ge (tgt := 45) hx hb dX0_markTargets_7 (by decide) (fun c_1 => ?_) (fun c_1 => ?_)
      · replace hf := x_ip c_1 hf
        refine lv_iconst (v := 0) hx hb dX0_markTargets_45 (by decide) ?_
        refine lv_istore_n (lv' := [(1, .int 0), (0, .ref o0)]) hx hb dX0_markTargets_46 rfl hl (by decide) rfl (fun ls hl => ?_)
        exact (hWW _ _ _ _ _).mpr ((ih (1, 0, g0_16) _ hf rfl _ _ _ rfl).2.1 rfl H locs ls hP hD hS (lv_sub hl [1, 0] rfl))
      · replace hf := x_in c_1 hf
        refine lv_aload_n hx hb dX0_markTargets_10 rfl (lv_at hl 0 rfl) ?_
        refine va_get (D := (dC, dI)) (ci := 0) (v := .ref a0_16) (C := RX0) (T := TX0) (N := 17) hx hb hts i_X0_markTargets_X0 hown hK hP 0 rfl rfl 16 (by decide) k_2 (fun _ h9 => h9) rfl dX0_markTargets_11 ?_
        refine lv_iload_n hx hb dX0_markTargets_14 rfl (lv_at hl 1 rfl) ?_
        refine lv_iload_n hx hb dX0_markTargets_15 rfl (lv_at hl 1 rfl) ?_
        refine lv_if_eq (tgt := 33) hx hb dX0_markTargets_16 (by decide) (fun c_2 => ?_) (fun c_2 => ?_)
        · replace hf := x_ip c_2 hf
          refine lv_iconst (v := 1) hx hb dX0_markTargets_33 (by decide) ?_
          refine lv_goto (tgt := 38) hx hb dX0_markTargets_34 (by decide) ?_
          obtain ⟨g_3, hf⟩ := x_gu hf
          refine va_zast hx hb hK hP hD hS 6 1 rfl rfl (x_gdin g_3) dX0_markTargets_38 (fun H locs hP hD hS => ?_)
          have hP : va_P (dC, dI) vwCl [(o0, .inr (0, [.int v0_0, .int v0_1, .int v0_2, .int v0_3, .int v0_4, .ref a0_5, .int v0_6, .ref a0_7, .ref a0_8, .ref a0_9, .int v0_10, .ref a0_11, .ref a0_12, .ref a0_13, .ref a0_14, .int v0_15, .ref a0_16])), (a0_7, .inl (cyI, 1000, .inl g0_7)), (a0_8, .inl (cyI, 1000, .inl g0_8)), (a0_11, .inl (cyI, n0_11, .inl g0_11)), (a0_13, .inl (cyI, 1000, .inl g0_13)), (a0_14, .inl (cyI, 200, .inl g0_14)), (a0_16, .inl (cyZ, 1000, .inl (upd g0_16 (Int32.toNatClampNeg l1) (vp_nar .boolean 1))))] H := hP
          have hD : va_D A [(o0, .inr (0, [.int v0_0, .int v0_1, .int v0_2, .int v0_3, .int v0_4, .ref a0_5, .int v0_6, .ref a0_7, .ref a0_8, .ref a0_9, .int v0_10, .ref a0_11, .ref a0_12, .ref a0_13, .ref a0_14, .int v0_15, .ref a0_16])), (a0_7, .inl (cyI, 1000, .inl g0_7)), (a0_8, .inl (cyI, 1000, .inl g0_8)), (a0_11, .inl (cyI, n0_11, .inl g0_11)), (a0_13, .inl (cyI, 1000, .inl g0_13)), (a0_14, .inl (cyI, 200, .inl g0_14)), (a0_16, .inl (cyZ, 1000, .inl (upd g0_16 (Int32.toNatClampNeg l1) (vp_nar .boolean 1))))] := hD
          refine lv_iinc (v := (l1 + 1)) (lv' := [(1, .int (l1 + 1)), (0, .ref o0)]) hx hb dX0_markTargets_39 hl (k := 1) rfl rfl (by decide) rfl (fun ls hl => ?_)
          refine lv_goto (tgt := 2) hx hb dX0_markTargets_42 (by decide) ?_
          exact (hWW _ _ _ _ _).mpr ((ih (0, l1 + 1, upd g0_16 (Int32.toNatClampNeg l1) (vp_nar .boolean 1)) _ hf rfl _ _ _ rfl).1 rfl H locs ls hP hD hS (lv_sub hl [1, 0] rfl))
        · replace hf := x_in c_2 hf
          refine lv_aload_n hx hb dX0_markTargets_19 rfl (lv_at hl 0 rfl) ?_
          refine va_get (D := (dC, dI)) (ci := 0) (v := .ref a0_7) (C := RX0) (T := TX0) (N := 17) hx hb hts i_X0_markTargets_X0 hown hK hP 0 rfl rfl 7 (by decide) k_3 (fun _ h9 => h9) rfl dX0_markTargets_20 ?_
          refine lv_iload_n hx hb dX0_markTargets_23 rfl (lv_at hl 1 rfl) ?_
          refine lv_iconst (v := 1) hx hb dX0_markTargets_24 (by decide) ?_
          refine lv_isub hx hb dX0_markTargets_25 ?_
          obtain ⟨g_4, hf⟩ := x_gu hf
          refine va_iald hx hb hK hP 1 0 rfl rfl (x_gdin g_4) dX0_markTargets_26 ?_
          refine lv_sipush (v := 168) hx hb dX0_markTargets_27 (by decide) ?_
          refine lv_icmp_ne (tgt := 37) hx hb dX0_markTargets_30 (by decide) (fun c_5 => ?_) (fun c_5 => ?_)
          · replace hf := x_in c_5 hf
            refine lv_iconst (v := 0) hx hb dX0_markTargets_37 (by decide) ?_
            obtain ⟨g_6, hf⟩ := x_gu hf
            refine va_zast hx hb hK hP hD hS 6 1 rfl rfl (x_gdin g_6) dX0_markTargets_38 (fun H locs hP hD hS => ?_)
            have hP : va_P (dC, dI) vwCl [(o0, .inr (0, [.int v0_0, .int v0_1, .int v0_2, .int v0_3, .int v0_4, .ref a0_5, .int v0_6, .ref a0_7, .ref a0_8, .ref a0_9, .int v0_10, .ref a0_11, .ref a0_12, .ref a0_13, .ref a0_14, .int v0_15, .ref a0_16])), (a0_7, .inl (cyI, 1000, .inl g0_7)), (a0_8, .inl (cyI, 1000, .inl g0_8)), (a0_11, .inl (cyI, n0_11, .inl g0_11)), (a0_13, .inl (cyI, 1000, .inl g0_13)), (a0_14, .inl (cyI, 200, .inl g0_14)), (a0_16, .inl (cyZ, 1000, .inl (upd g0_16 (Int32.toNatClampNeg l1) (vp_nar .boolean 0))))] H := hP
            have hD : va_D A [(o0, .inr (0, [.int v0_0, .int v0_1, .int v0_2, .int v0_3, .int v0_4, .ref a0_5, .int v0_6, .ref a0_7, .ref a0_8, .ref a0_9, .int v0_10, .ref a0_11, .ref a0_12, .ref a0_13, .ref a0_14, .int v0_15, .ref a0_16])), (a0_7, .inl (cyI, 1000, .inl g0_7)), (a0_8, .inl (cyI, 1000, .inl g0_8)), (a0_11, .inl (cyI, n0_11, .inl g0_11)), (a0_13, .inl (cyI, 1000, .inl g0_13)), (a0_14, .inl (cyI, 200, .inl g0_14)), (a0_16, .inl (cyZ, 1000, .inl (upd g0_16 (Int32.toNatClampNeg l1) (vp_nar .boolean 0))))] := hD
            refine lv_iinc (v := (l1 + 1)) (lv' := [(1, .int (l1 + 1)), (0, .ref o0)]) hx hb dX0_markTargets_39 hl (k := 1) rfl rfl (by decide) rfl (fun ls hl => ?_)
            refine lv_goto (tgt := 2) hx hb dX0_markTargets_42 (by decide) ?_
            exact (hWW _ _ _ _ _).mpr ((ih (0, l1 + 1, upd g0_16 (Int32.toNatClampNeg l1) (vp_nar .boolean 0)) _ hf rfl _ _ _ rfl).1 rfl H locs ls hP hD hS (lv_sub hl [1, 0] rfl))
          · replace hf := x_ip c_5 hf
            refine lv_iconst (v := 1) hx hb dX0_markTargets_33 (by decide) ?_
            refine lv_goto (tgt := 38) hx hb dX0_markTargets_34 (by decide) ?_
            obtain ⟨g_7, hf⟩ := x_gu hf
            refine va_zast hx hb hK hP hD hS 6 1 rfl rfl (x_gdin g_7) dX0_markTargets_38 (fun H locs hP hD hS => ?_)
            have hP : va_P (dC, dI) vwCl [(o0, .inr (0, [.int v0_0, .int v0_1, .int v0_2, .int v0_3, .int v0_4, .ref a0_5, .int v0_6, .ref a0_7, .ref a0_8, .ref a0_9, .int v0_10, .ref a0_11, .ref a0_12, .ref a0_13, .ref a0_14, .int v0_15, .ref a0_16])), (a0_7, .inl (cyI, 1000, .inl g0_7)), (a0_8, .inl (cyI, 1000, .inl g0_8)), (a0_11, .inl (cyI, n0_11, .inl g0_11)), (a0_13, .inl (cyI, 1000, .inl g0_13)), (a0_14, .inl (cyI, 200, .inl g0_14)), (a0_16, .inl (cyZ, 1000, .inl (upd g0_16 (Int32.toNatClampNeg l1) (vp_nar .boolean 1))))] H := hP
            have hD : va_D A [(o0, .inr (0, [.int v0_0, .int v0_1, .int v0_2, .int v0_3, .int v0_4, .ref a0_5, .int v0_6, .ref a0_7, .ref a0_8, .ref a0_9, .int v0_10, .ref a0_11, .ref a0_12, .ref a0_13, .ref a0_14, .int v0_15, .ref a0_16])), (a0_7, .inl (cyI, 1000, .inl g0_7)), (a0_8, .inl (cyI, 1000, .inl g0_8)), (a0_11, .inl (cyI, n0_11, .inl g0_11)), (a0_13, .inl (cyI, 1000, .inl g0_13)), (a0_14, .inl (cyI, 200, .inl g0_14)), (a0_16, .inl (cyZ, 1000, .inl (upd g0_16 (Int32.toNatClampNeg l1) (vp_nar .boolean 1))))] := hD
            refine lv_iinc (v := (l1 + 1)) (lv' := [(1, .int (l1 + 1)), (0, .ref o0)]) hx hb dX0_markTargets_39 hl (k := 1) rfl rfl (by decide) rfl (fun ls hl => ?_)
            refine lv_goto (tgt := 2) hx hb dX0_markTargets_42 (by decide) ?_
            exact (hWW _ _ _ _ _).mpr ((ih (0, l1 + 1, upd g0_16 (Int32.toNatClampNeg l1) (vp_nar .boolean 1)) _ hf rfl _ _ _ rfl).1 rfl H locs ls hP hD hS (lv_sub hl [1, 0] rfl))
    · intro hq H locs ls hP hD hS hl
      subst hq
      refine (hWW _ _ _ _ _).mp ?_
      replace hf := x_ip rfl (x_in (by decide) hf)
      refine lv_iload_n hx hb dX0_markTargets_47 rfl (lv_at hl 1 rfl) ?_
      refine lv_aload_n hx hb dX0_markTargets_48 rfl (lv_at hl 0 rfl) ?_
      refine va_get (D := (dC, dI)) (ci := 0) (v := .int v0_10) (C := RX0) (T := TX0) (N := 17) hx hb hts i_X0_markTargets_X0 hown hK hP 0 rfl rfl 10 (by decide) k_1 (fun _ h9 => h9) rfl dX0_markTargets_49 ?_
      refine lv_icmp_ge (tgt := 85) hx hb dX0_markTargets_52 (by decide) (fun c_8 => ?_) (fun c_8 => ?_)
      · replace hf := x_ip c_8 hf
        refine lv_iconst (v := 0) hx hb dX0_markTargets_85 (by decide) ?_
        refine lv_istore_n (lv' := [(1, .int 0), (0, .ref o0)]) hx hb dX0_markTargets_86 rfl hl (by decide) rfl (fun ls hl => ?_)
        exact (hWW _ _ _ _ _).mpr ((ih (2, 0, g0_16) _ hf rfl _ _ _ rfl).2.2.1 rfl H locs ls hP hD hS (lv_sub hl [1, 0] rfl))
      · replace hf := x_in c_8 hf
        refine lv_aload_n hx hb dX0_markTargets_55 rfl (lv_at hl 0 rfl) ?_
        refine va_get (D := (dC, dI)) (ci := 0) (v := .ref a0_7) (C := RX0) (T := TX0) (N := 17) hx hb hts i_X0_markTargets_X0 hown hK hP 0 rfl rfl 7 (by decide) k_3 (fun _ h9 => h9) rfl dX0_markTargets_56 ?_
        refine lv_iload_n hx hb dX0_markTargets_59 rfl (lv_at hl 1 rfl) ?_
        obtain ⟨g_9, hf⟩ := x_gu hf
        refine va_iald hx hb hK hP 1 0 rfl rfl (x_gdin g_9) dX0_markTargets_60 ?_
        obtain ⟨r_10, h_10, hf⟩ := x_bi hf
        have hPc := hP.sub (ws' := []) [] rfl
        refine va_calli (va_runS (As := [.int (g0_7 (Int32.toNatClampNeg l1))]) (rest := []) ⟨hx, hb, hml, hown, hts⟩ (c_X0_isJump l dC dI cyI cyZ cyJ H.size (g0_7 (Int32.toNatClampNeg l1)) r_10 h_10) (va_cwS 1 hts gX0_markTargets_X0_isJump rfl rfl rfl (by decide +kernel) ⟨Nat.le_of_ble_eq_true rfl, Nat.le_of_ble_eq_true rfl⟩) (x_pS hN hK hPc) rfl rfl hl.1 rfl (lv_room (Nat.le_of_ble_eq_true rfl)) dX0_markTargets_61 ⟨Nat.le_of_ble_eq_true rfl, Nat.le_of_ble_eq_true rfl⟩) hS x_nA (x_nf hA hS) (fun q_10 u t H1 locs ht hvm hw hB hz1 hk1 hS => ?_)
        have hP := x_kp hP hk1
        clear ht hvm hB hz1 hk1 t u hPc
        generalize H1 = H at hP hS ⊢
        obtain ⟨hw, b_10⟩ := hw
        obtain rfl := hw.symm
        refine lv_if_eq (tgt := 79) hx hb dX0_markTargets_64 (by decide) (fun c_11 => ?_) (fun c_11 => ?_)
        · replace hf := x_ip c_11 hf
          refine lv_iinc (v := (l1 + 1)) (lv' := [(1, .int (l1 + 1)), (0, .ref o0)]) hx hb dX0_markTargets_79 hl (k := 1) rfl rfl (by decide) rfl (fun ls hl => ?_)
          refine lv_goto (tgt := 47) hx hb dX0_markTargets_82 (by decide) ?_
          exact (hWW _ _ _ _ _).mpr ((ih (1, l1 + 1, g0_16) _ hf rfl _ _ _ rfl).2.1 rfl H locs ls hP hD hS (lv_sub hl [1, 0] rfl))
        · replace hf := x_in c_11 hf
          refine lv_aload_n hx hb dX0_markTargets_67 rfl (lv_at hl 0 rfl) ?_
          refine va_get (D := (dC, dI)) (ci := 0) (v := .ref a0_16) (C := RX0) (T := TX0) (N := 17) hx hb hts i_X0_markTargets_X0 hown hK hP 0 rfl rfl 16 (by decide) k_2 (fun _ h9 => h9) rfl dX0_markTargets_68 ?_
          refine lv_aload_n hx hb dX0_markTargets_71 rfl (lv_at hl 0 rfl) ?_
          refine va_get (D := (dC, dI)) (ci := 0) (v := .ref a0_8) (C := RX0) (T := TX0) (N := 17) hx hb hts i_X0_markTargets_X0 hown hK hP 0 rfl rfl 8 (by decide) k_4 (fun _ h9 => h9) rfl dX0_markTargets_72 ?_
          refine lv_iload_n hx hb dX0_markTargets_75 rfl (lv_at hl 1 rfl) ?_
          obtain ⟨g_12, hf⟩ := x_gu hf
          refine va_iald hx hb hK hP 2 0 rfl rfl (x_gdin g_12) dX0_markTargets_76 ?_
          refine lv_iconst (v := 1) hx hb dX0_markTargets_77 (by decide) ?_
          obtain ⟨g_13, hf⟩ := x_gu hf
          refine va_zast hx hb hK hP hD hS 6 1 rfl rfl (x_gdin g_13) dX0_markTargets_78 (fun H locs hP hD hS => ?_)
          have hP : va_P (dC, dI) vwCl [(o0, .inr (0, [.int v0_0, .int v0_1, .int v0_2, .int v0_3, .int v0_4, .ref a0_5, .int v0_6, .ref a0_7, .ref a0_8, .ref a0_9, .int v0_10, .ref a0_11, .ref a0_12, .ref a0_13, .ref a0_14, .int v0_15, .ref a0_16])), (a0_7, .inl (cyI, 1000, .inl g0_7)), (a0_8, .inl (cyI, 1000, .inl g0_8)), (a0_11, .inl (cyI, n0_11, .inl g0_11)), (a0_13, .inl (cyI, 1000, .inl g0_13)), (a0_14, .inl (cyI, 200, .inl g0_14)), (a0_16, .inl (cyZ, 1000, .inl (upd g0_16 (Int32.toNatClampNeg (g0_8 (Int32.toNatClampNeg l1))) (vp_nar .boolean 1))))] H := hP
          have hD : va_D A [(o0, .inr (0, [.int v0_0, .int v0_1, .int v0_2, .int v0_3, .int v0_4, .ref a0_5, .int v0_6, .ref a0_7, .ref a0_8, .ref a0_9, .int v0_10, .ref a0_11, .ref a0_12, .ref a0_13, .ref a0_14, .int v0_15, .ref a0_16])), (a0_7, .inl (cyI, 1000, .inl g0_7)), (a0_8, .inl (cyI, 1000, .inl g0_8)), (a0_11, .inl (cyI, n0_11, .inl g0_11)), (a0_13, .inl (cyI, 1000, .inl g0_13)), (a0_14, .inl (cyI, 200, .inl g0_14)), (a0_16, .inl (cyZ, 1000, .inl (upd g0_16 (Int32.toNatClampNeg (g0_8 (Int32.toNatClampNeg l1))) (vp_nar .boolean 1))))] := hD
          refine lv_iinc (v := (l1 + 1)) (lv' := [(1, .int (l1 + 1)), (0, .ref o0)]) hx hb dX0_markTargets_79 hl (k := 1) rfl rfl (by decide) rfl (fun ls hl => ?_)
          refine lv_goto (tgt := 47) hx hb dX0_markTargets_82 (by decide) ?_
          exact (hWW _ _ _ _ _).mpr ((ih (1, l1 + 1, upd g0_16 (Int32.toNatClampNeg (g0_8 (Int32.toNatClampNeg l1))) (vp_nar .boolean 1)) _ hf rfl _ _ _ rfl).2.1 rfl H locs ls hP hD hS (lv_sub hl [1, 0] rfl))
    · intro hq H locs ls hP hD hS hl
      subst hq
      refine (hWW _ _ _ _ _).mp ?_
      replace hf := x_ip rfl (x_in (by decide) (x_in (by decide) hf))
      refine lv_iload_n hx hb dX0_markTargets_87 rfl (lv_at hl 1 rfl) ?_
      refine lv_aload_n hx hb dX0_markTargets_88 rfl (lv_at hl 0 rfl) ?_
      refine va_get (D := (dC, dI)) (ci := 0) (v := .ref a0_13) (C := RX0) (T := TX0) (N := 17) hx hb hts i_X0_markTargets_X0 hown hK hP 0 rfl rfl 13 (by decide) k_5 (fun _ h9 => h9) rfl dX0_markTargets_89 ?_
      refine lv_aload_n hx hb dX0_markTargets_92 rfl (lv_at hl 0 rfl) ?_
      refine va_get (D := (dC, dI)) (ci := 0) (v := .int v0_10) (C := RX0) (T := TX0) (N := 17) hx hb hts i_X0_markTargets_X0 hown hK hP 0 rfl rfl 10 (by decide) k_1 (fun _ h9 => h9) rfl dX0_markTargets_93 ?_
      refine lv_iconst (v := 1) hx hb dX0_markTargets_96 (by decide) ?_
      refine lv_isub hx hb dX0_markTargets_97 ?_
      obtain ⟨g_14, hf⟩ := x_gu hf
      refine va_iald hx hb hK hP 4 0 rfl rfl (x_gdin g_14) dX0_markTargets_98 ?_
      refine lv_icmp_ge (tgt := 120) hx hb dX0_markTargets_99 (by decide) (fun c_15 => ?_) (fun c_15 => ?_)
      · replace hf := x_ip c_15 hf
        refine lv_iconst (v := 0) hx hb dX0_markTargets_120 (by decide) ?_
        refine lv_istore_n (lv' := [(1, .int 0), (0, .ref o0)]) hx hb dX0_markTargets_121 rfl hl (by decide) rfl (fun ls hl => ?_)
        exact (hWW _ _ _ _ _).mpr ((ih (3, 0, g0_16) _ hf rfl _ _ _ rfl).2.2.2 rfl H locs ls hP hD hS (lv_sub hl [1, 0] rfl))
      · replace hf := x_in c_15 hf
        refine lv_aload_n hx hb dX0_markTargets_102 rfl (lv_at hl 0 rfl) ?_
        refine va_get (D := (dC, dI)) (ci := 0) (v := .ref a0_16) (C := RX0) (T := TX0) (N := 17) hx hb hts i_X0_markTargets_X0 hown hK hP 0 rfl rfl 16 (by decide) k_2 (fun _ h9 => h9) rfl dX0_markTargets_103 ?_
        refine lv_aload_n hx hb dX0_markTargets_106 rfl (lv_at hl 0 rfl) ?_
        refine va_get (D := (dC, dI)) (ci := 0) (v := .ref a0_11) (C := RX0) (T := TX0) (N := 17) hx hb hts i_X0_markTargets_X0 hown hK hP 0 rfl rfl 11 (by decide) k_6 (fun _ h9 => h9) rfl dX0_markTargets_107 ?_
        refine lv_iload_n hx hb dX0_markTargets_110 rfl (lv_at hl 1 rfl) ?_
        obtain ⟨g_16, hf⟩ := x_gu hf
        refine va_iald hx hb hK hP 3 0 rfl rfl (x_gdin g_16) dX0_markTargets_111 ?_
        refine lv_iconst (v := 1) hx hb dX0_markTargets_112 (by decide) ?_
        obtain ⟨g_17, hf⟩ := x_gu hf
        refine va_zast hx hb hK hP hD hS 6 1 rfl rfl (x_gdin g_17) dX0_markTargets_113 (fun H locs hP hD hS => ?_)
        have hP : va_P (dC, dI) vwCl [(o0, .inr (0, [.int v0_0, .int v0_1, .int v0_2, .int v0_3, .int v0_4, .ref a0_5, .int v0_6, .ref a0_7, .ref a0_8, .ref a0_9, .int v0_10, .ref a0_11, .ref a0_12, .ref a0_13, .ref a0_14, .int v0_15, .ref a0_16])), (a0_7, .inl (cyI, 1000, .inl g0_7)), (a0_8, .inl (cyI, 1000, .inl g0_8)), (a0_11, .inl (cyI, n0_11, .inl g0_11)), (a0_13, .inl (cyI, 1000, .inl g0_13)), (a0_14, .inl (cyI, 200, .inl g0_14)), (a0_16, .inl (cyZ, 1000, .inl (upd g0_16 (Int32.toNatClampNeg (g0_11 (Int32.toNatClampNeg l1))) (vp_nar .boolean 1))))] H := hP
        have hD : va_D A [(o0, .inr (0, [.int v0_0, .int v0_1, .int v0_2, .int v0_3, .int v0_4, .ref a0_5, .int v0_6, .ref a0_7, .ref a0_8, .ref a0_9, .int v0_10, .ref a0_11, .ref a0_12, .ref a0_13, .ref a0_14, .int v0_15, .ref a0_16])), (a0_7, .inl (cyI, 1000, .inl g0_7)), (a0_8, .inl (cyI, 1000, .inl g0_8)), (a0_11, .inl (cyI, n0_11, .inl g0_11)), (a0_13, .inl (cyI, 1000, .inl g0_13)), (a0_14, .inl (cyI, 200, .inl g0_14)), (a0_16, .inl (cyZ, 1000, .inl (upd g0_16 (Int32.toNatClampNeg (g0_11 (Int32.toNatClampNeg l1))) (vp_nar .boolean 1))))] := hD
        refine lv_iinc (v := (l1 + 1)) (lv' := [(1, .int (l1 + 1)), (0, .ref o0)]) hx hb dX0_markTargets_114 hl (k := 1) rfl rfl (by decide) rfl (fun ls hl => ?_)
        refine lv_goto (tgt := 87) hx hb dX0_markTargets_117 (by decide) ?_
        exact (hWW _ _ _ _ _).mpr ((ih (2, l1 + 1, upd g0_16 (Int32.toNatClampNeg (g0_11 (Int32.toNatClampNeg l1))) (vp_nar .boolean 1)) _ hf rfl _ _ _ rfl).2.2.1 rfl H locs ls hP hD hS (lv_sub hl [1, 0] rfl))
    · intro hq H locs ls hP hD hS hl
      subst hq
      refine (hWW _ _ _ _ _).mp ?_
      replace hf := x_ip rfl (x_in (by decide) (x_in (by decide) (x_in (by decide) hf)))
      refine lv_iload_n hx hb dX0_markTargets_122 rfl (lv_at hl 1 rfl) ?_
      refine lv_aload_n hx hb dX0_markTargets_123 rfl (lv_at hl 0 rfl) ?_
      refine va_get (D := (dC, dI)) (ci := 0) (v := .int v0_15) (C := RX0) (T := TX0) (N := 17) hx hb hts i_X0_markTargets_X0 hown hK hP 0 rfl rfl 15 (by decide) k_7 (fun _ h9 => h9) rfl dX0_markTargets_124 ?_
      refine lv_icmp_ge (tgt := 152) hx hb dX0_markTargets_127 (by decide) (fun c_18 => ?_) (fun c_18 => ?_)
      · replace hf := x_ip c_18 hf
        obtain rfl := Option.some.inj hf
        have hP9 := hP.sub (ws' := [(o0, .inr (0, [.int v0_0, .int v0_1, .int v0_2, .int v0_3, .int v0_4, .ref a0_5, .int v0_6, .ref a0_7, .ref a0_8, .ref a0_9, .int v0_10, .ref a0_11, .ref a0_12, .ref a0_13, .ref a0_14, .int v0_15, .ref a0_16])), (a0_7, .inl (cyI, 1000, .inl g0_7)), (a0_8, .inl (cyI, 1000, .inl g0_8)), (a0_11, .inl (cyI, n0_11, .inl g0_11)), (a0_13, .inl (cyI, 1000, .inl g0_13)), (a0_14, .inl (cyI, 200, .inl g0_14)), (a0_16, .inl (cyZ, 1000, .inl g0_16))]) [0, 1, 2, 3, 4, 5, 6] rfl
        have hD9 := hD.sub (ws' := [(o0, .inr (0, [.int v0_0, .int v0_1, .int v0_2, .int v0_3, .int v0_4, .ref a0_5, .int v0_6, .ref a0_7, .ref a0_8, .ref a0_9, .int v0_10, .ref a0_11, .ref a0_12, .ref a0_13, .ref a0_14, .int v0_15, .ref a0_16])), (a0_7, .inl (cyI, 1000, .inl g0_7)), (a0_8, .inl (cyI, 1000, .inl g0_8)), (a0_11, .inl (cyI, n0_11, .inl g0_11)), (a0_13, .inl (cyI, 1000, .inl g0_13)), (a0_14, .inl (cyI, 200, .inl g0_14)), (a0_16, .inl (cyZ, 1000, .inl g0_16))]) [0, 1, 2, 3, 4, 5, 6] (by decide) rfl
        exact W.vret hx hb hr (fun t ht hW => ⟨⟨(), rfl, trivial, by rw [ht]; exact hP9, va_K.moved hW.alike hK, hD9⟩, hS.F ht⟩) hS.2.2 dX0_markTargets_152
      · replace hf := x_in c_18 hf
        refine lv_aload_n hx hb dX0_markTargets_130 rfl (lv_at hl 0 rfl) ?_
        refine va_get (D := (dC, dI)) (ci := 0) (v := .ref a0_16) (C := RX0) (T := TX0) (N := 17) hx hb hts i_X0_markTargets_X0 hown hK hP 0 rfl rfl 16 (by decide) k_2 (fun _ h9 => h9) rfl dX0_markTargets_131 ?_
        refine lv_aload_n hx hb dX0_markTargets_134 rfl (lv_at hl 0 rfl) ?_
        refine va_get (D := (dC, dI)) (ci := 0) (v := .ref a0_14) (C := RX0) (T := TX0) (N := 17) hx hb hts i_X0_markTargets_X0 hown hK hP 0 rfl rfl 14 (by decide) k_8 (fun _ h9 => h9) rfl dX0_markTargets_135 ?_
        refine lv_iconst (v := 4) hx hb dX0_markTargets_138 (by decide) ?_
        refine lv_iload_n hx hb dX0_markTargets_139 rfl (lv_at hl 1 rfl) ?_
        refine lv_imul hx hb dX0_markTargets_140 ?_
        refine lv_iconst (v := 2) hx hb dX0_markTargets_141 (by decide) ?_
        refine lv_iadd hx hb dX0_markTargets_142 ?_
        obtain ⟨g_19, hf⟩ := x_gu hf
        refine va_iald hx hb hK hP 5 0 rfl rfl (x_gdin g_19) dX0_markTargets_143 ?_
        refine lv_iconst (v := 1) hx hb dX0_markTargets_144 (by decide) ?_
        obtain ⟨g_20, hf⟩ := x_gu hf
        refine va_zast hx hb hK hP hD hS 6 1 rfl rfl (x_gdin g_20) dX0_markTargets_145 (fun H locs hP hD hS => ?_)
        have hP : va_P (dC, dI) vwCl [(o0, .inr (0, [.int v0_0, .int v0_1, .int v0_2, .int v0_3, .int v0_4, .ref a0_5, .int v0_6, .ref a0_7, .ref a0_8, .ref a0_9, .int v0_10, .ref a0_11, .ref a0_12, .ref a0_13, .ref a0_14, .int v0_15, .ref a0_16])), (a0_7, .inl (cyI, 1000, .inl g0_7)), (a0_8, .inl (cyI, 1000, .inl g0_8)), (a0_11, .inl (cyI, n0_11, .inl g0_11)), (a0_13, .inl (cyI, 1000, .inl g0_13)), (a0_14, .inl (cyI, 200, .inl g0_14)), (a0_16, .inl (cyZ, 1000, .inl (upd g0_16 (Int32.toNatClampNeg (g0_14 (Int32.toNatClampNeg (((4 : Int32) * l1) + (2 : Int32))))) (vp_nar .boolean 1))))] H := hP
        have hD : va_D A [(o0, .inr (0, [.int v0_0, .int v0_1, .int v0_2, .int v0_3, .int v0_4, .ref a0_5, .int v0_6, .ref a0_7, .ref a0_8, .ref a0_9, .int v0_10, .ref a0_11, .ref a0_12, .ref a0_13, .ref a0_14, .int v0_15, .ref a0_16])), (a0_7, .inl (cyI, 1000, .inl g0_7)), (a0_8, .inl (cyI, 1000, .inl g0_8)), (a0_11, .inl (cyI, n0_11, .inl g0_11)), (a0_13, .inl (cyI, 1000, .inl g0_13)), (a0_14, .inl (cyI, 200, .inl g0_14)), (a0_16, .inl (cyZ, 1000, .inl (upd g0_16 (Int32.toNatClampNeg (g0_14 (Int32.toNatClampNeg (((4 : Int32) * l1) + (2 : Int32))))) (vp_nar .boolean 1))))] := hD
        refine lv_iinc (v := (l1 + 1)) (lv' := [(1, .int (l1 + 1)), (0, .ref o0)]) hx hb dX0_markTargets_146 hl (k := 1) rfl rfl (by decide) rfl (fun ls hl => ?_)
        refine lv_goto (tgt := 122) hx hb dX0_markTargets_149 (by decide) ?_
        exact (hWW _ _ _ _ _).mpr ((ih (3, l1 + 1, upd g0_16 (Int32.toNatClampNeg (g0_14 (Int32.toNatClampNeg (((4 : Int32) * l1) + (2 : Int32))))) (vp_nar .boolean 1)) _ hf rfl _ _ _ rfl).2.2.2 rfl H locs ls hP hD hS (lv_sub hl [1, 0] rfl)))
  refine lv_iconst (v := 0) hx hb dX0_markTargets_0 (by decide) ?_
  refine lv_istore_n (lv' := [(1, .int 0), (0, .ref o0)]) hx hb dX0_markTargets_1 rfl hl (by decide) rfl (fun ls hl => ?_)
  exact (hWW _ _ _ _ _).mpr ((J (0, 0, g0_16) _ hf rfl _ _ _ rfl).1 rfl H locs ls hP hD hS (lv_sub hl [1, 0] rfl))

def f_J7_fill_53178_a3_10_L (l1 : Int32) (l3 : Int32) (z : Nat × Int32 × (Nat → Int32)) : Option ((Nat → Int32)) := match z with
  | (q, l2, g3_10) => if q = 0 then if l3 ≤ l2 then some g3_10 else if x_gd l2 256 = true then (f_J7_fill_53178_a3_10_L l1 l3 (0, l2 + 1, upd g3_10 (Int32.toNatClampNeg l2) l1)) else none else none
partial_fixpoint
def f_J7_fill_53178_a3_10 (g3_10 : Nat → Int32) (p1 : Int32) : Option ((Nat → Int32)) := (f_J7_fill_53178_a3_10_L p1 256 (0, 0, g3_10))
set_option maxHeartbeats 4000000 in
set_option maxRecDepth 100000 in
theorem c_J7_fill_53178_a3_10 (l : Launch) (dC : Nat → ClassId) (dI : Nat → Nat → Nat) (cyI cyZ cyJ : ClassId) (sz : Nat) (a3_10 : Nat) (g3_10 : Nat → Int32) (p1 : Int32) (R : (Nat → Int32)) (hf : f_J7_fill_53178_a3_10 g3_10 p1 = some R) : Met l yJ7_fill_53178 wsJ7_fill_53178 ({ frames := 0, cells := 0, slots := 0, locals := 0 }) (va_Pc [.ref a3_10, .int p1] (x_PreD (dC, dI) (x_T cyI cyZ cyJ) [(a3_10, .inl (cyI, 256, .inl g3_10))] sz)) (va_Qv (fun _ : Unit => True) (fun (_ : Unit) (t : State) => va_P (dC, dI) vwCl [(a3_10, .inl (cyI, 256, .inl R))] t.heap ∧ va_K (dC, dI) vwCl (x_T cyI cyZ cyJ) t ∧ va_D (va_A [(a3_10, .inl (cyI, 256, .inl g3_10))] sz) [(a3_10, .inl (cyI, 256, .inl R))]) (va_A [(a3_10, .inl (cyI, 256, .inl g3_10))] sz)) 0 0 (va_A [(a3_10, .inl (cyI, 256, .inl g3_10))] sz) := by
  refine Met.ofW (cc := cJ7_fill_53178) (maxL := 4) (ret := none) (by decide) rfl ?_
  intro p e s m args below meth c s₁ B hml hv
  obtain ⟨rfl, ⟨hsz, hP, hK, hN⟩, hD0⟩ := hv
  have hx := B.exec
  have hb := B.bytes
  have hr := B.returns
  have hts := atoms_spec (ws := wsJ7_fill_53178) B.pre
  have hown : s.vm.findClass RJ7 = some m.cls := findClass_of_methodNamed B.named
  subst hsz
  have hD := hD0.self (sz := s.heap.size)
  generalize hAe : va_A [(a3_10, .inl (cyI, 256, .inl g3_10))] s.heap.size = A at hD ⊢
  have hA : ∀ q : Nat, s.heap.size ≤ q → A q := fun q h => by rw [← hAe]; exact Or.inr h
  have hP : va_P (dC, dI) vwCl [(a3_10, .inl (cyI, 256, .inl g3_10))] s.heap := hP
  have hl := lv_entry ([.ref a3_10, .int p1]) (n := 4) (Nat.le_of_ble_eq_true rfl)
  rw [lg_entry_eq]
  generalize (lg_sl ([.ref a3_10, .int p1]) ++ List.replicate (4 - (lg_sl ([.ref a3_10, .int p1])).length) Slot.unset).toArray = ls at hl ⊢
  have hl : lv_has ls 4 [(0, .ref a3_10), (1, .int p1)] := hl
  obtain ⟨H, hH⟩ : ∃ z, z = s.heap := ⟨_, rfl⟩
  refine x_here hH ?_
  have hP : va_P (dC, dI) vwCl [(a3_10, .inl (cyI, 256, .inl g3_10))] H := by rw [hH]; exact hP
  have hS : va_S A s.heap H [] := by rw [hH]; exact va_S.rf
  clear hH
  obtain ⟨locs, hlo⟩ : ∃ z : List Loc, z = [] := ⟨_, rfl⟩
  refine x_herl hlo ?_
  have hS : va_S A s.heap H locs := by rw [hlo]; exact hS
  clear hlo
  unfold f_J7_fill_53178_a3_10 at hf
  refine x_wn (fun WW hWW => ?_)
  have J := fun (l1 : Int32) (l3 : Int32) => f_J7_fill_53178_a3_10_L.partial_correctness l1 l3 (fun (z : Nat × Int32 × (Nat → Int32)) (r : (Nat → Int32)) => r = R → ∀ (q : Nat) (l2 : Int32) (g3_10 : Nat → Int32), z = (q, l2, g3_10) → ((q = 0 → ∀ (H : Heap) (locs : List Loc) (ls : Array Slot), va_P (dC, dI) vwCl [(a3_10, .inl (cyI, 256, .inl g3_10))] H → va_D A [(a3_10, .inl (cyI, 256, .inl g3_10))] → va_S A s.heap H locs → lv_has ls 4 [(0, .ref a3_10), (1, .int l1), (2, .int l2), (3, .int l3)] → WW H locs 0 0 (F0 m 5 ls [])))) (by
    intro F ih z r hf hr q l2 g3_10 hz
    subst hz
    obtain rfl := hr
    · intro hq H locs ls hP hD hS hl
      subst hq
      refine (hWW _ _ _ _ _).mp ?_
      replace hf := x_ip rfl hf
      refine lv_iload_n hx hb dJ7_fill_53178_5 rfl (lv_at hl 2 rfl) ?_
      refine lv_iload_n hx hb dJ7_fill_53178_6 rfl (lv_at hl 3 rfl) ?_
      refine lv_icmp_ge (tgt := 20) hx hb dJ7_fill_53178_7 (by decide) (fun c_1 => ?_) (fun c_1 => ?_)
      · replace hf := x_ip c_1 hf
        obtain rfl := Option.some.inj hf
        have hP9 := hP.sub (ws' := [(a3_10, .inl (cyI, 256, .inl g3_10))]) [0] rfl
        have hD9 := hD.sub (ws' := [(a3_10, .inl (cyI, 256, .inl g3_10))]) [0] (by decide) rfl
        exact W.vret hx hb hr (fun t ht hW => ⟨⟨(), rfl, trivial, by rw [ht]; exact hP9, va_K.moved hW.alike hK, hD9⟩, hS.F ht⟩) hS.2.2 dJ7_fill_53178_20
      · replace hf := x_in c_1 hf
        refine lv_aload_n hx hb dJ7_fill_53178_10 rfl (lv_at hl 0 rfl) ?_
        refine lv_iload_n hx hb dJ7_fill_53178_11 rfl (lv_at hl 2 rfl) ?_
        refine lv_iload_n hx hb dJ7_fill_53178_12 rfl (lv_at hl 1 rfl) ?_
        obtain ⟨g_2, hf⟩ := x_gu hf
        refine va_iast hx hb hK hP hD hS 0 0 rfl rfl (x_gdin g_2) dJ7_fill_53178_13 (fun H locs hP hD hS => ?_)
        have hP : va_P (dC, dI) vwCl [(a3_10, .inl (cyI, 256, .inl (upd g3_10 (Int32.toNatClampNeg l2) l1)))] H := hP
        have hD : va_D A [(a3_10, .inl (cyI, 256, .inl (upd g3_10 (Int32.toNatClampNeg l2) l1)))] := hD
        refine lv_iinc (v := (l2 + 1)) (lv' := [(2, .int (l2 + 1)), (0, .ref a3_10), (1, .int l1), (3, .int l3)]) hx hb dJ7_fill_53178_14 hl (k := 2) rfl rfl (by decide) rfl (fun ls hl => ?_)
        refine lv_goto (tgt := 5) hx hb dJ7_fill_53178_17 (by decide) ?_
        exact (hWW _ _ _ _ _).mpr ((ih (0, l2 + 1, upd g3_10 (Int32.toNatClampNeg l2) l1) _ hf rfl _ _ _ rfl) rfl H locs ls hP hD hS (lv_sub hl [1, 2, 0, 3] rfl)))
  refine lv_iconst (v := 0) hx hb dJ7_fill_53178_0 (by decide) ?_
  refine lv_istore_n (lv' := [(2, .int 0), (0, .ref a3_10), (1, .int p1)]) hx hb dJ7_fill_53178_1 rfl hl (by decide) rfl (fun ls hl => ?_)
  refine lv_aload_n hx hb dJ7_fill_53178_2 rfl (lv_at hl 1 rfl) ?_
  refine va_alen (v := 256) hx hb hK hP 0 0 rfl rfl rfl dJ7_fill_53178_3 ?_
  refine lv_istore_n (lv' := [(3, .int 256), (2, .int 0), (0, .ref a3_10), (1, .int p1)]) hx hb dJ7_fill_53178_4 rfl hl (by decide) rfl (fun ls hl => ?_)
  exact (hWW _ _ _ _ _).mpr ((J p1 256 (0, 0, g3_10) _ hf rfl _ _ _ rfl) rfl H locs ls hP hD hS (lv_sub hl [2, 3, 1, 0] rfl))

def f_X1_clear (v1_5 : Int32) (g1_3 : Nat → Int32) (n1_3 : Nat) : Option (Int32 × (Nat → Int32)) := if x_gd 0 n1_3 = true then some (1, upd g1_3 (Int32.toNatClampNeg 0) (-1)) else none
theorem i_X1_clear_X1 : ∀ w ∈ wsX10, w ∈ wsX1_clear := fun _ h => List.mem_cons_of_mem _ (List.mem_append_right _ h)
set_option maxHeartbeats 4000000 in
set_option maxRecDepth 100000 in
theorem c_X1_clear (l : Launch) (dC : Nat → ClassId) (dI : Nat → Nat → Nat) (cyI cyZ cyJ : ClassId) (sz : Nat) (o1 : Nat) (a1_0 : Nat) (a1_1 : Nat) (a1_2 : Nat) (a1_3 : Nat) (a1_4 : Nat) (v1_5 : Int32) (g1_3 : Nat → Int32) (n1_3 : Nat) (R : Int32 × (Nat → Int32)) (hf : f_X1_clear v1_5 g1_3 n1_3 = some R) : Met l yX1_clear wsX1_clear ({ frames := 0, cells := 0, slots := 0, locals := 0 }) (va_Pc [.ref o1] (x_PreD (dC, dI) (x_T cyI cyZ cyJ) [(o1, .inr (1, [.ref a1_0, .ref a1_1, .ref a1_2, .ref a1_3, .ref a1_4, .int v1_5])), (a1_3, .inl (cyI, n1_3, .inl g1_3))] sz)) (va_Qv (fun _ : Unit => True) (fun (_ : Unit) (t : State) => va_P (dC, dI) vwCl [(o1, .inr (1, [.ref a1_0, .ref a1_1, .ref a1_2, .ref a1_3, .ref a1_4, .int (R.1)])), (a1_3, .inl (cyI, n1_3, .inl R.2))] t.heap ∧ va_K (dC, dI) vwCl (x_T cyI cyZ cyJ) t ∧ va_D (va_A [(o1, .inr (1, [.ref a1_0, .ref a1_1, .ref a1_2, .ref a1_3, .ref a1_4, .int v1_5])), (a1_3, .inl (cyI, n1_3, .inl g1_3))] sz) [(o1, .inr (1, [.ref a1_0, .ref a1_1, .ref a1_2, .ref a1_3, .ref a1_4, .int (R.1)])), (a1_3, .inl (cyI, n1_3, .inl R.2))]) (va_A [(o1, .inr (1, [.ref a1_0, .ref a1_1, .ref a1_2, .ref a1_3, .ref a1_4, .int v1_5])), (a1_3, .inl (cyI, n1_3, .inl g1_3))] sz)) 0 0 (va_A [(o1, .inr (1, [.ref a1_0, .ref a1_1, .ref a1_2, .ref a1_3, .ref a1_4, .int v1_5])), (a1_3, .inl (cyI, n1_3, .inl g1_3))] sz) := by
  refine Met.ofW (cc := cX1_clear) (maxL := 1) (ret := none) (by decide) rfl ?_
  intro p e s m args below meth c s₁ B hml hv
  obtain ⟨rfl, ⟨hsz, hP, hK, hN⟩, hD0⟩ := hv
  have hx := B.exec
  have hb := B.bytes
  have hr := B.returns
  have hts := atoms_spec (ws := wsX1_clear) B.pre
  have hown : s.vm.findClass RX1 = some m.cls := findClass_of_methodNamed B.named
  have k_1 := hts (.fieldLink RX1 21 "FlowJudge$Contexts" "firstBelow" "[I") (by decide +kernel)
  have k_2 := hts (.fieldLink RX1 27 "FlowJudge$Contexts" "count" "I") (by decide +kernel)
  subst hsz
  have hD := hD0.self (sz := s.heap.size)
  generalize hAe : va_A [(o1, .inr (1, [.ref a1_0, .ref a1_1, .ref a1_2, .ref a1_3, .ref a1_4, .int v1_5])), (a1_3, .inl (cyI, n1_3, .inl g1_3))] s.heap.size = A at hD ⊢
  have hA : ∀ q : Nat, s.heap.size ≤ q → A q := fun q h => by rw [← hAe]; exact Or.inr h
  have hP : va_P (dC, dI) vwCl [(o1, .inr (1, [.ref a1_0, .ref a1_1, .ref a1_2, .ref a1_3, .ref a1_4, .int v1_5])), (a1_3, .inl (cyI, n1_3, .inl g1_3))] s.heap := hP
  have hl := lv_entry ([.ref o1]) (n := 1) (Nat.le_of_ble_eq_true rfl)
  rw [lg_entry_eq]
  generalize (lg_sl ([.ref o1]) ++ List.replicate (1 - (lg_sl ([.ref o1])).length) Slot.unset).toArray = ls at hl ⊢
  have hl : lv_has ls 1 [(0, .ref o1)] := hl
  obtain ⟨H, hH⟩ : ∃ z, z = s.heap := ⟨_, rfl⟩
  refine x_here hH ?_
  have hP : va_P (dC, dI) vwCl [(o1, .inr (1, [.ref a1_0, .ref a1_1, .ref a1_2, .ref a1_3, .ref a1_4, .int v1_5])), (a1_3, .inl (cyI, n1_3, .inl g1_3))] H := by rw [hH]; exact hP
  have hS : va_S A s.heap H [] := by rw [hH]; exact va_S.rf
  clear hH
  obtain ⟨locs, hlo⟩ : ∃ z : List Loc, z = [] := ⟨_, rfl⟩
  refine x_herl hlo ?_
  have hS : va_S A s.heap H locs := by rw [hlo]; exact hS
  clear hlo
  unfold f_X1_clear at hf
  refine lv_aload_n hx hb dX1_clear_0 rfl (lv_at hl 0 rfl) ?_
  refine va_get (D := (dC, dI)) (ci := 1) (v := .ref a1_3) (C := RX1) (T := TX1) (N := 6) hx hb hts i_X1_clear_X1 hown hK hP 0 rfl rfl 3 (by decide) k_1 (fun _ h9 => h9) rfl dX1_clear_1 ?_
  refine lv_iconst (v := 0) hx hb dX1_clear_4 (by decide) ?_
  refine lv_iconst (v := (-1)) hx hb dX1_clear_5 (by decide) ?_
  obtain ⟨g_1, hf⟩ := x_gu hf
  refine va_iast hx hb hK hP hD hS 1 0 rfl rfl (x_gdin g_1) dX1_clear_6 (fun H locs hP hD hS => ?_)
  have hP : va_P (dC, dI) vwCl [(o1, .inr (1, [.ref a1_0, .ref a1_1, .ref a1_2, .ref a1_3, .ref a1_4, .int v1_5])), (a1_3, .inl (cyI, n1_3, .inl (upd g1_3 (Int32.toNatClampNeg 0) (-1))))] H := hP
  have hD : va_D A [(o1, .inr (1, [.ref a1_0, .ref a1_1, .ref a1_2, .ref a1_3, .ref a1_4, .int v1_5])), (a1_3, .inl (cyI, n1_3, .inl (upd g1_3 (Int32.toNatClampNeg 0) (-1))))] := hD
  refine lv_aload_n hx hb dX1_clear_7 rfl (lv_at hl 0 rfl) ?_
  refine lv_iconst (v := 1) hx hb dX1_clear_8 (by decide) ?_
  refine va_put (D := (dC, dI)) (ci := 1) (v := .int 1) (ty := .int) (C := RX1) (T := TX1) (N := 6) hx hb hts i_X1_clear_X1 tyX1 tyX1_ok nmX1 hown hK hP hD hS 0 rfl rfl 5 (by decide) k_2 (fun _ h9 => h9) rfl (by decide +kernel) rfl rfl (Nat.le_of_ble_eq_true rfl) dX1_clear_9 (fun H locs hP hD hS => ?_)
  have hP : va_P (dC, dI) vwCl [(o1, .inr (1, [.ref a1_0, .ref a1_1, .ref a1_2, .ref a1_3, .ref a1_4, .int 1])), (a1_3, .inl (cyI, n1_3, .inl (upd g1_3 (Int32.toNatClampNeg 0) (-1))))] H := hP
  have hD : va_D A [(o1, .inr (1, [.ref a1_0, .ref a1_1, .ref a1_2, .ref a1_3, .ref a1_4, .int 1])), (a1_3, .inl (cyI, n1_3, .inl (upd g1_3 (Int32.toNatClampNeg 0) (-1))))] := hD
  obtain rfl := Option.some.inj hf
  have hP9 := hP.sub (ws' := [(o1, .inr (1, [.ref a1_0, .ref a1_1, .ref a1_2, .ref a1_3, .ref a1_4, .int 1])), (a1_3, .inl (cyI, n1_3, .inl (upd g1_3 (Int32.toNatClampNeg 0) (-1))))]) [0, 1] rfl
  have hD9 := hD.sub (ws' := [(o1, .inr (1, [.ref a1_0, .ref a1_1, .ref a1_2, .ref a1_3, .ref a1_4, .int 1])), (a1_3, .inl (cyI, n1_3, .inl (upd g1_3 (Int32.toNatClampNeg 0) (-1))))]) [0, 1] (by decide) rfl
  exact W.vret hx hb hr (fun t ht hW => ⟨⟨(), rfl, trivial, by rw [ht]; exact hP9, va_K.moved hW.alike hK, hD9⟩, hS.F ht⟩) hS.2.2 dX1_clear_12

def f_X1_before_L (g1_0 : Nat → Int32) (n1_0 : Nat) (g1_1 : Nat → Int32) (n1_1 : Nat) (g1_2 : Nat → Int32) (n1_2 : Nat) (l2 : Int32) (z : Nat × Int32 × Int32) : Option (Int32) := match z with
  | (q, l3, l4) => if q = 0 then if (16 : Int32) ≤ l4 then some (-1) else if x_gd l3 n1_2 = true then if (g1_2 (Int32.toNatClampNeg l3)) ≤ (0 : Int32) then some (-1) else if x_gd l3 n1_1 = true then if (g1_1 (Int32.toNatClampNeg l3)) = l2 then if x_gd l3 n1_0 = true then some (g1_0 (Int32.toNatClampNeg l3)) else none else if x_gd l3 n1_0 = true then (f_X1_before_L g1_0 n1_0 g1_1 n1_1 g1_2 n1_2 l2 (0, g1_0 (Int32.toNatClampNeg l3), l4 + 1)) else none else none else none else none
partial_fixpoint
def f_X1_before (g1_0 : Nat → Int32) (n1_0 : Nat) (g1_1 : Nat → Int32) (n1_1 : Nat) (g1_2 : Nat → Int32) (n1_2 : Nat) (p1 : Int32) (p2 : Int32) : Option (Int32) := (f_X1_before_L g1_0 n1_0 g1_1 n1_1 g1_2 n1_2 p2 (0, p1, 0))
theorem i_X1_before_X1 : ∀ w ∈ wsX10, w ∈ wsX1_before := fun _ h => List.mem_cons_of_mem _ (List.mem_append_right _ h)
set_option maxHeartbeats 4000000 in
set_option maxRecDepth 100000 in
theorem c_X1_before (l : Launch) (dC : Nat → ClassId) (dI : Nat → Nat → Nat) (cyI cyZ cyJ : ClassId) (sz : Nat) (o1 : Nat) (a1_0 : Nat) (a1_1 : Nat) (a1_2 : Nat) (a1_3 : Nat) (a1_4 : Nat) (v1_5 : Int32) (g1_0 : Nat → Int32) (n1_0 : Nat) (g1_1 : Nat → Int32) (n1_1 : Nat) (g1_2 : Nat → Int32) (n1_2 : Nat) (p1 : Int32) (p2 : Int32) (R : Int32) (hf : f_X1_before g1_0 n1_0 g1_1 n1_1 g1_2 n1_2 p1 p2 = some R) : Met l yX1_before wsX1_before ({ frames := 0, cells := 0, slots := 0, locals := 0 }) (va_Pc [.ref o1, .int p1, .int p2] (x_Pre (dC, dI) (x_T cyI cyZ cyJ) [(o1, .inr (1, [.ref a1_0, .ref a1_1, .ref a1_2, .ref a1_3, .ref a1_4, .int v1_5])), (a1_0, .inl (cyI, n1_0, .inl g1_0)), (a1_1, .inl (cyI, n1_1, .inl g1_1)), (a1_2, .inl (cyI, n1_2, .inl g1_2))] sz)) (va_Qi (fun (r : Int32) (_ : Unit) => r = R) (fun _ _ => True) (x_new sz)) 0 0 (x_new sz) := by
  refine Met.ofW (cc := cX1_before) (maxL := 5) (ret := (some .int)) (by decide) rfl ?_
  intro p e s m args below meth c s₁ B hml hv
  obtain ⟨rfl, hsz, hP, hK, hN⟩ := hv
  have hx := B.exec
  have hb := B.bytes
  have hr := B.returns
  have hts := atoms_spec (ws := wsX1_before) B.pre
  have hown : s.vm.findClass RX1 = some m.cls := findClass_of_methodNamed B.named
  have k_1 := hts (.fieldLink RX1 18 "FlowJudge$Contexts" "lengths" "[I") (by decide +kernel)
  have k_2 := hts (.fieldLink RX1 15 "FlowJudge$Contexts" "addresses" "[I") (by decide +kernel)
  have k_3 := hts (.fieldLink RX1 9 "FlowJudge$Contexts" "parents" "[I") (by decide +kernel)
  subst hsz
  have hA : ∀ q : Nat, s.heap.size ≤ q → x_new s.heap.size q := fun _ h => h
  have hS : va_S (x_new s.heap.size) s.heap s.heap [] := va_S.rf
  have hP : va_P (dC, dI) vwCl [(o1, .inr (1, [.ref a1_0, .ref a1_1, .ref a1_2, .ref a1_3, .ref a1_4, .int v1_5])), (a1_0, .inl (cyI, n1_0, .inl g1_0)), (a1_1, .inl (cyI, n1_1, .inl g1_1)), (a1_2, .inl (cyI, n1_2, .inl g1_2))] s.heap := hP
  have hl := lv_entry ([.ref o1, .int p1, .int p2]) (n := 5) (Nat.le_of_ble_eq_true rfl)
  rw [lg_entry_eq]
  generalize (lg_sl ([.ref o1, .int p1, .int p2]) ++ List.replicate (5 - (lg_sl ([.ref o1, .int p1, .int p2])).length) Slot.unset).toArray = ls at hl ⊢
  have hl : lv_has ls 5 [(0, .ref o1), (1, .int p1), (2, .int p2)] := hl
  obtain ⟨H, hH⟩ : ∃ z, z = s.heap := ⟨_, rfl⟩
  refine x_here hH ?_
  have hP : va_P (dC, dI) vwCl [(o1, .inr (1, [.ref a1_0, .ref a1_1, .ref a1_2, .ref a1_3, .ref a1_4, .int v1_5])), (a1_0, .inl (cyI, n1_0, .inl g1_0)), (a1_1, .inl (cyI, n1_1, .inl g1_1)), (a1_2, .inl (cyI, n1_2, .inl g1_2))] H := by rw [hH]; exact hP
  have hS : va_S (x_new s.heap.size) s.heap H [] := by rw [hH]; exact va_S.rf
  clear hH
  obtain ⟨locs, hlo⟩ : ∃ z : List Loc, z = [] := ⟨_, rfl⟩
  refine x_herl hlo ?_
  have hS : va_S (x_new s.heap.size) s.heap H locs := by rw [hlo]; exact hS
  clear hlo
  unfold f_X1_before at hf
  refine x_wn (fun WW hWW => ?_)
  have J := fun (l2 : Int32) => f_X1_before_L.partial_correctness g1_0 n1_0 g1_1 n1_1 g1_2 n1_2 l2 (fun (z : Nat × Int32 × Int32) (r : Int32) => r = R → ∀ (q : Nat) (l3 : Int32) (l4 : Int32), z = (q, l3, l4) → ((q = 0 → ∀ (H : Heap) (locs : List Loc) (ls : Array Slot), va_P (dC, dI) vwCl [(o1, .inr (1, [.ref a1_0, .ref a1_1, .ref a1_2, .ref a1_3, .ref a1_4, .int v1_5])), (a1_0, .inl (cyI, n1_0, .inl g1_0)), (a1_1, .inl (cyI, n1_1, .inl g1_1)), (a1_2, .inl (cyI, n1_2, .inl g1_2))] H → va_S (x_new s.heap.size) s.heap H locs → lv_has ls 5 [(0, .ref o1), (2, .int l2), (3, .int l3), (4, .int l4)] → WW H locs 0 0 (F0 m 5 ls [])))) (by
    intro F ih z r hf hr q l3 l4 hz
    subst hz
    obtain rfl := hr
    · intro hq H locs ls hP hS hl
      subst hq
      refine (hWW _ _ _ _ _).mp ?_
      replace hf := x_ip rfl hf
      refine lv_iload hx hb dX1_before_5 (lv_at hl 3 rfl) ?_
      refine lv_bipush (v := 16) hx hb dX1_before_7 (by decide) ?_
      refine lv_icmp_ge (tgt := 51) hx hb dX1_before_9 (by decide) (fun c_1 => ?_) (fun c_1 => ?_)
      · replace hf := x_ip c_1 hf
        refine lv_iconst (v := (-1)) hx hb dX1_before_51 (by decide) ?_
        obtain rfl := Option.some.inj hf
        exact W.iret hx hb hr (fun t ht hW => ⟨⟨_, (), rfl, rfl, trivial⟩, hS.F ht⟩) hS.2.2 dX1_before_52
      · replace hf := x_in c_1 hf
        refine lv_aload_n hx hb dX1_before_12 rfl (lv_at hl 0 rfl) ?_
        refine va_get (D := (dC, dI)) (ci := 1) (v := .ref a1_2) (C := RX1) (T := TX1) (N := 6) hx hb hts i_X1_before_X1 hown hK hP 0 rfl rfl 2 (by decide) k_1 (fun _ h9 => h9) rfl dX1_before_13 ?_
        refine lv_iload_n hx hb dX1_before_16 rfl (lv_at hl 2 rfl) ?_
        obtain ⟨g_2, hf⟩ := x_gu hf
        refine va_iald hx hb hK hP 3 0 rfl rfl (x_gdin g_2) dX1_before_17 ?_
        refine lv_if_le (tgt := 51) hx hb dX1_before_18 (by decide) (fun c_3 => ?_) (fun c_3 => ?_)
        · replace hf := x_ip c_3 hf
          refine lv_iconst (v := (-1)) hx hb dX1_before_51 (by decide) ?_
          obtain rfl := Option.some.inj hf
          exact W.iret hx hb hr (fun t ht hW => ⟨⟨_, (), rfl, rfl, trivial⟩, hS.F ht⟩) hS.2.2 dX1_before_52
        · replace hf := x_in c_3 hf
          refine lv_aload_n hx hb dX1_before_21 rfl (lv_at hl 0 rfl) ?_
          refine va_get (D := (dC, dI)) (ci := 1) (v := .ref a1_1) (C := RX1) (T := TX1) (N := 6) hx hb hts i_X1_before_X1 hown hK hP 0 rfl rfl 1 (by decide) k_2 (fun _ h9 => h9) rfl dX1_before_22 ?_
          refine lv_iload_n hx hb dX1_before_25 rfl (lv_at hl 2 rfl) ?_
          obtain ⟨g_4, hf⟩ := x_gu hf
          refine va_iald hx hb hK hP 2 0 rfl rfl (x_gdin g_4) dX1_before_26 ?_
          refine lv_iload_n hx hb dX1_before_27 rfl (lv_at hl 1 rfl) ?_
          refine lv_icmp_ne (tgt := 38) hx hb dX1_before_28 (by decide) (fun c_5 => ?_) (fun c_5 => ?_)
          · replace hf := x_in c_5 hf
            refine lv_aload_n hx hb dX1_before_38 rfl (lv_at hl 0 rfl) ?_
            refine va_get (D := (dC, dI)) (ci := 1) (v := .ref a1_0) (C := RX1) (T := TX1) (N := 6) hx hb hts i_X1_before_X1 hown hK hP 0 rfl rfl 0 (by decide) k_3 (fun _ h9 => h9) rfl dX1_before_39 ?_
            refine lv_iload_n hx hb dX1_before_42 rfl (lv_at hl 2 rfl) ?_
            obtain ⟨g_6, hf⟩ := x_gu hf
            refine va_iald hx hb hK hP 1 0 rfl rfl (x_gdin g_6) dX1_before_43 ?_
            refine lv_istore_n (lv' := [(3, .int (g1_0 (Int32.toNatClampNeg l3))), (0, .ref o1), (2, .int l2), (4, .int l4)]) hx hb dX1_before_44 rfl hl (by decide) rfl (fun ls hl => ?_)
            refine lv_iinc (v := (l4 + 1)) (lv' := [(4, .int (l4 + 1)), (3, .int (g1_0 (Int32.toNatClampNeg l3))), (0, .ref o1), (2, .int l2)]) hx hb dX1_before_45 hl (k := 3) rfl rfl (by decide) rfl (fun ls hl => ?_)
            refine lv_goto (tgt := 5) hx hb dX1_before_48 (by decide) ?_
            exact (hWW _ _ _ _ _).mpr ((ih (0, g1_0 (Int32.toNatClampNeg l3), l4 + 1) _ hf rfl _ _ _ rfl) rfl H locs ls hP hS (lv_sub hl [2, 3, 1, 0] rfl))
          · replace hf := x_ip c_5 hf
            refine lv_aload_n hx hb dX1_before_31 rfl (lv_at hl 0 rfl) ?_
            refine va_get (D := (dC, dI)) (ci := 1) (v := .ref a1_0) (C := RX1) (T := TX1) (N := 6) hx hb hts i_X1_before_X1 hown hK hP 0 rfl rfl 0 (by decide) k_3 (fun _ h9 => h9) rfl dX1_before_32 ?_
            refine lv_iload_n hx hb dX1_before_35 rfl (lv_at hl 2 rfl) ?_
            obtain ⟨g_7, hf⟩ := x_gu hf
            refine va_iald hx hb hK hP 1 0 rfl rfl (x_gdin g_7) dX1_before_36 ?_
            obtain rfl := Option.some.inj hf
            exact W.iret hx hb hr (fun t ht hW => ⟨⟨_, (), rfl, rfl, trivial⟩, hS.F ht⟩) hS.2.2 dX1_before_37)
  refine lv_iload_n hx hb dX1_before_0 rfl (lv_at hl 1 rfl) ?_
  refine lv_istore_n (lv' := [(3, .int p1), (0, .ref o1), (1, .int p1), (2, .int p2)]) hx hb dX1_before_1 rfl hl (by decide) rfl (fun ls hl => ?_)
  refine lv_iconst (v := 0) hx hb dX1_before_2 (by decide) ?_
  refine lv_istore (lv' := [(4, .int 0), (3, .int p1), (0, .ref o1), (1, .int p1), (2, .int p2)]) hx hb dX1_before_3 hl (by decide) rfl (fun ls hl => ?_)
  exact (hWW _ _ _ _ _).mpr ((J p2 (0, p1, 0) _ hf rfl _ _ _ rfl) rfl H locs ls hP hS (lv_sub hl [2, 4, 1, 0] rfl))

