def f_X1_isBefore_L (g1_0 : Nat → Int32) (n1_0 : Nat) (g1_1 : Nat → Int32) (n1_1 : Nat) (g1_2 : Nat → Int32) (n1_2 : Nat) (z : Nat × Int32 × Int32 × Int32 × Int32 × Int32) : Option (Int32) := match z with
  | (q, l1, l2, l3, l4, l5) => if q = 0 then if (16 : Int32) ≤ l5 then (f_X1_isBefore_L g1_0 n1_0 g1_1 n1_1 g1_2 n1_2 (1, l1, l2, l3, l4, 0)) else if x_gd l3 n1_2 = true then if x_gd l4 n1_2 = true then if (g1_2 (Int32.toNatClampNeg l3)) ≤ (g1_2 (Int32.toNatClampNeg l4)) then (f_X1_isBefore_L g1_0 n1_0 g1_1 n1_1 g1_2 n1_2 (1, l1, l2, l3, l4, 0)) else if x_gd l3 n1_0 = true then (f_X1_isBefore_L g1_0 n1_0 g1_1 n1_1 g1_2 n1_2 (0, l1, l2, g1_0 (Int32.toNatClampNeg l3), l4, l5 + 1)) else none else none else none else if q = 1 then if (16 : Int32) ≤ l5 then if l3 = l4 then if x_gd l1 n1_2 = true then if x_gd l2 n1_2 = true then if (g1_2 (Int32.toNatClampNeg l2)) ≤ (g1_2 (Int32.toNatClampNeg l1)) then some 0 else some 1 else none else none else (f_X1_isBefore_L g1_0 n1_0 g1_1 n1_1 g1_2 n1_2 (2, 0, 0, l3, l4, 0)) else if x_gd l4 n1_2 = true then if x_gd l3 n1_2 = true then if (g1_2 (Int32.toNatClampNeg l4)) ≤ (g1_2 (Int32.toNatClampNeg l3)) then if l3 = l4 then if x_gd l1 n1_2 = true then if x_gd l2 n1_2 = true then if (g1_2 (Int32.toNatClampNeg l2)) ≤ (g1_2 (Int32.toNatClampNeg l1)) then some 0 else some 1 else none else none else (f_X1_isBefore_L g1_0 n1_0 g1_1 n1_1 g1_2 n1_2 (2, 0, 0, l3, l4, 0)) else if x_gd l4 n1_0 = true then (f_X1_isBefore_L g1_0 n1_0 g1_1 n1_1 g1_2 n1_2 (1, l1, l2, l3, g1_0 (Int32.toNatClampNeg l4), l5 + 1)) else none else none else none else if q = 2 then if (16 : Int32) ≤ l5 then if x_gd l3 n1_1 = true then if x_gd l4 n1_1 = true then if (g1_1 (Int32.toNatClampNeg l4)) ≤ (g1_1 (Int32.toNatClampNeg l3)) then some 0 else some 1 else none else none else if x_gd l3 n1_0 = true then if x_gd l4 n1_0 = true then if (g1_0 (Int32.toNatClampNeg l3)) = (g1_0 (Int32.toNatClampNeg l4)) then if x_gd l3 n1_1 = true then if x_gd l4 n1_1 = true then if (g1_1 (Int32.toNatClampNeg l4)) ≤ (g1_1 (Int32.toNatClampNeg l3)) then some 0 else some 1 else none else none else if x_gd l3 n1_0 = true then if x_gd l4 n1_0 = true then (f_X1_isBefore_L g1_0 n1_0 g1_1 n1_1 g1_2 n1_2 (2, 0, 0, g1_0 (Int32.toNatClampNeg l3), g1_0 (Int32.toNatClampNeg l4), l5 + 1)) else none else none else none else none else none
partial_fixpoint
def f_X1_isBefore (g1_0 : Nat → Int32) (n1_0 : Nat) (g1_1 : Nat → Int32) (n1_1 : Nat) (g1_2 : Nat → Int32) (n1_2 : Nat) (p1 : Int32) (p2 : Int32) : Option (Int32) := (f_X1_isBefore_L g1_0 n1_0 g1_1 n1_1 g1_2 n1_2 (0, p1, p2, p1, p2, 0))
theorem i_X1_isBefore_X1 : ∀ w ∈ wsX10, w ∈ wsX1_isBefore := by decide +kernel
set_option maxHeartbeats 4000000 in
set_option maxRecDepth 100000 in
theorem c_X1_isBefore (l : Launch) (dC : Nat → ClassId) (dI : Nat → Nat → Nat) (cyI cyZ cyJ : ClassId) (sz : Nat) (o1 : Nat) (a1_0 : Nat) (a1_1 : Nat) (a1_2 : Nat) (a1_3 : Nat) (a1_4 : Nat) (v1_5 : Int32) (g1_0 : Nat → Int32) (n1_0 : Nat) (g1_1 : Nat → Int32) (n1_1 : Nat) (g1_2 : Nat → Int32) (n1_2 : Nat) (p1 : Int32) (p2 : Int32) (R : Int32) (hf : f_X1_isBefore g1_0 n1_0 g1_1 n1_1 g1_2 n1_2 p1 p2 = some R) : Met l yX1_isBefore wsX1_isBefore ({ frames := 0, cells := 0, slots := 0, locals := 0 }) (va_Pc [.ref o1, .int p1, .int p2] (x_Pre (dC, dI) (x_T cyI cyZ cyJ) [(o1, .inr (1, [.ref a1_0, .ref a1_1, .ref a1_2, .ref a1_3, .ref a1_4, .int v1_5])), (a1_0, .inl (cyI, n1_0, .inl g1_0)), (a1_1, .inl (cyI, n1_1, .inl g1_1)), (a1_2, .inl (cyI, n1_2, .inl g1_2))] sz)) (va_Qi (fun (r : Int32) (_ : Unit) => r = R ∧ x_nb r) (fun _ _ => True) (x_new sz)) 0 0 (x_new sz) := by
  refine Met.ofW (cc := cX1_isBefore) (maxL := 6) (ret := (some .boolean)) (by decide) rfl ?_
  intro p e s m args below meth c s₁ B hml hv
  obtain ⟨rfl, hsz, hP, hK, hN⟩ := hv
  have hx := B.exec
  have hb := B.bytes
  have hr := B.returns
  have hts := atoms_spec (ws := wsX1_isBefore) B.pre
  have hown : s.vm.findClass RX1 = some m.cls := findClass_of_methodNamed B.named
  have k_1 := hts (.fieldLink RX1 18 "FlowJudge$Contexts" "lengths" "[I") (by decide +kernel)
  have k_2 := hts (.fieldLink RX1 9 "FlowJudge$Contexts" "parents" "[I") (by decide +kernel)
  have k_3 := hts (.fieldLink RX1 15 "FlowJudge$Contexts" "addresses" "[I") (by decide +kernel)
  subst hsz
  have hA : ∀ q : Nat, s.heap.size ≤ q → x_new s.heap.size q := fun _ h => h
  have hS : va_S (x_new s.heap.size) s.heap s.heap [] := va_S.rf
  have hP : va_P (dC, dI) vwCl [(o1, .inr (1, [.ref a1_0, .ref a1_1, .ref a1_2, .ref a1_3, .ref a1_4, .int v1_5])), (a1_0, .inl (cyI, n1_0, .inl g1_0)), (a1_1, .inl (cyI, n1_1, .inl g1_1)), (a1_2, .inl (cyI, n1_2, .inl g1_2))] s.heap := hP
  have hl := lv_entry ([.ref o1, .int p1, .int p2]) (n := 6) (Nat.le_of_ble_eq_true rfl)
  rw [lg_entry_eq]
  generalize (lg_sl ([.ref o1, .int p1, .int p2]) ++ List.replicate (6 - (lg_sl ([.ref o1, .int p1, .int p2])).length) Slot.unset).toArray = ls at hl ⊢
  have hl : lv_has ls 6 [(0, .ref o1), (1, .int p1), (2, .int p2)] := hl
  obtain ⟨H, hH⟩ : ∃ z, z = s.heap := ⟨_, rfl⟩
  refine x_here hH ?_
  have hP : va_P (dC, dI) vwCl [(o1, .inr (1, [.ref a1_0, .ref a1_1, .ref a1_2, .ref a1_3, .ref a1_4, .int v1_5])), (a1_0, .inl (cyI, n1_0, .inl g1_0)), (a1_1, .inl (cyI, n1_1, .inl g1_1)), (a1_2, .inl (cyI, n1_2, .inl g1_2))] H := by rw [hH]; exact hP
  have hS : va_S (x_new s.heap.size) s.heap H [] := by rw [hH]; exact va_S.rf
  clear hH
  obtain ⟨locs, hlo⟩ : ∃ z : List Loc, z = [] := ⟨_, rfl⟩
  refine x_herl hlo ?_
  have hS : va_S (x_new s.heap.size) s.heap H locs := by rw [hlo]; exact hS
  clear hlo
  unfold f_X1_isBefore at hf
  refine x_wn (fun WW hWW => ?_)
  have J := f_X1_isBefore_L.partial_correctness g1_0 n1_0 g1_1 n1_1 g1_2 n1_2 (fun (z : Nat × Int32 × Int32 × Int32 × Int32 × Int32) (r : Int32) => r = R → ∀ (q : Nat) (l1 : Int32) (l2 : Int32) (l3 : Int32) (l4 : Int32) (l5 : Int32), z = (q, l1, l2, l3, l4, l5) → ((q = 0 → ∀ (H : Heap) (locs : List Loc) (ls : Array Slot), va_P (dC, dI) vwCl [(o1, .inr (1, [.ref a1_0, .ref a1_1, .ref a1_2, .ref a1_3, .ref a1_4, .int v1_5])), (a1_0, .inl (cyI, n1_0, .inl g1_0)), (a1_1, .inl (cyI, n1_1, .inl g1_1)), (a1_2, .inl (cyI, n1_2, .inl g1_2))] H → va_S (x_new s.heap.size) s.heap H locs → lv_has ls 6 [(0, .ref o1), (1, .int l1), (2, .int l2), (3, .int l3), (4, .int l4), (5, .int l5)] → WW H locs 0 0 (F0 m 8 ls [])) ∧ (q = 1 → ∀ (H : Heap) (locs : List Loc) (ls : Array Slot), va_P (dC, dI) vwCl [(o1, .inr (1, [.ref a1_0, .ref a1_1, .ref a1_2, .ref a1_3, .ref a1_4, .int v1_5])), (a1_0, .inl (cyI, n1_0, .inl g1_0)), (a1_1, .inl (cyI, n1_1, .inl g1_1)), (a1_2, .inl (cyI, n1_2, .inl g1_2))] H → va_S (x_new s.heap.size) s.heap H locs → lv_has ls 6 [(0, .ref o1), (1, .int l1), (2, .int l2), (3, .int l3), (4, .int l4), (5, .int l5)] → WW H locs 0 0 (F0 m 47 ls [])) ∧ (q = 2 → ∀ (H : Heap) (locs : List Loc) (ls : Array Slot), va_P (dC, dI) vwCl [(o1, .inr (1, [.ref a1_0, .ref a1_1, .ref a1_2, .ref a1_3, .ref a1_4, .int v1_5])), (a1_0, .inl (cyI, n1_0, .inl g1_0)), (a1_1, .inl (cyI, n1_1, .inl g1_1)), (a1_2, .inl (cyI, n1_2, .inl g1_2))] H → va_S (x_new s.heap.size) s.heap H locs → lv_has ls 6 [(0, .ref o1), (3, .int l3), (4, .int l4), (5, .int l5)] → WW H locs 0 0 (F0 m 115 ls [])))) (by
    intro F ih z r hf hr q l1 l2 l3 l4 l5 hz
    subst hz
    obtain rfl := hr
    refine ⟨?_, ?_, ?_⟩
    · intro hq H locs ls hP hS hl
      subst hq
      refine (hWW _ _ _ _ _).mp ?_
      replace hf := x_ip rfl hf
      refine lv_iload hx hb dX1_isBefore_8 (lv_at hl 5 rfl) ?_
      refine lv_bipush (v := 16) hx hb dX1_isBefore_10 (by decide) ?_
      refine lv_icmp_ge (tgt := 44) hx hb dX1_isBefore_12 (by decide) (fun c_1 => ?_) (fun c_1 => ?_)
      · replace hf := x_ip c_1 hf
        refine lv_iconst (v := 0) hx hb dX1_isBefore_44 (by decide) ?_
        refine lv_istore (lv' := [(5, .int 0), (0, .ref o1), (1, .int l1), (2, .int l2), (3, .int l3), (4, .int l4)]) hx hb dX1_isBefore_45 hl (by decide) rfl (fun ls hl => ?_)
        exact (hWW _ _ _ _ _).mpr ((ih (1, l1, l2, l3, l4, 0) _ hf rfl _ _ _ _ _ _ rfl).2.1 rfl H locs ls hP hS (lv_sub hl [1, 2, 3, 4, 5, 0] rfl))
      · replace hf := x_in c_1 hf
        refine lv_aload_n hx hb dX1_isBefore_15 rfl (lv_at hl 0 rfl) ?_
        refine va_get (D := (dC, dI)) (ci := 1) (v := .ref a1_2) (C := RX1) (T := TX1) (N := 6) hx hb hts i_X1_isBefore_X1 hown hK hP 0 rfl rfl 2 (by decide) k_1 (fun _ h9 => h9) rfl dX1_isBefore_16 ?_
        refine lv_iload_n hx hb dX1_isBefore_19 rfl (lv_at hl 3 rfl) ?_
        obtain ⟨g_2, hf⟩ := x_gu hf
        refine va_iald hx hb hK hP 3 0 rfl rfl (x_gdin g_2) dX1_isBefore_20 ?_
        refine lv_aload_n hx hb dX1_isBefore_21 rfl (lv_at hl 0 rfl) ?_
        refine va_get (D := (dC, dI)) (ci := 1) (v := .ref a1_2) (C := RX1) (T := TX1) (N := 6) hx hb hts i_X1_isBefore_X1 hown hK hP 0 rfl rfl 2 (by decide) k_1 (fun _ h9 => h9) rfl dX1_isBefore_22 ?_
        refine lv_iload hx hb dX1_isBefore_25 (lv_at hl 4 rfl) ?_
        obtain ⟨g_3, hf⟩ := x_gu hf
        refine va_iald hx hb hK hP 3 0 rfl rfl (x_gdin g_3) dX1_isBefore_27 ?_
        refine lv_icmp_le (tgt := 44) hx hb dX1_isBefore_28 (by decide) (fun c_4 => ?_) (fun c_4 => ?_)
        · replace hf := x_ip c_4 hf
          refine lv_iconst (v := 0) hx hb dX1_isBefore_44 (by decide) ?_
          refine lv_istore (lv' := [(5, .int 0), (0, .ref o1), (1, .int l1), (2, .int l2), (3, .int l3), (4, .int l4)]) hx hb dX1_isBefore_45 hl (by decide) rfl (fun ls hl => ?_)
          exact (hWW _ _ _ _ _).mpr ((ih (1, l1, l2, l3, l4, 0) _ hf rfl _ _ _ _ _ _ rfl).2.1 rfl H locs ls hP hS (lv_sub hl [1, 2, 3, 4, 5, 0] rfl))
        · replace hf := x_in c_4 hf
          refine lv_aload_n hx hb dX1_isBefore_31 rfl (lv_at hl 0 rfl) ?_
          refine va_get (D := (dC, dI)) (ci := 1) (v := .ref a1_0) (C := RX1) (T := TX1) (N := 6) hx hb hts i_X1_isBefore_X1 hown hK hP 0 rfl rfl 0 (by decide) k_2 (fun _ h9 => h9) rfl dX1_isBefore_32 ?_
          refine lv_iload_n hx hb dX1_isBefore_35 rfl (lv_at hl 3 rfl) ?_
          obtain ⟨g_5, hf⟩ := x_gu hf
          refine va_iald hx hb hK hP 1 0 rfl rfl (x_gdin g_5) dX1_isBefore_36 ?_
          refine lv_istore_n (lv' := [(3, .int (g1_0 (Int32.toNatClampNeg l3))), (0, .ref o1), (1, .int l1), (2, .int l2), (4, .int l4), (5, .int l5)]) hx hb dX1_isBefore_37 rfl hl (by decide) rfl (fun ls hl => ?_)
          refine lv_iinc (v := (l5 + 1)) (lv' := [(5, .int (l5 + 1)), (3, .int (g1_0 (Int32.toNatClampNeg l3))), (0, .ref o1), (1, .int l1), (2, .int l2), (4, .int l4)]) hx hb dX1_isBefore_38 hl (k := 5) rfl rfl (by decide) rfl (fun ls hl => ?_)
          refine lv_goto (tgt := 8) hx hb dX1_isBefore_41 (by decide) ?_
          exact (hWW _ _ _ _ _).mpr ((ih (0, l1, l2, g1_0 (Int32.toNatClampNeg l3), l4, l5 + 1) _ hf rfl _ _ _ _ _ _ rfl).1 rfl H locs ls hP hS (lv_sub hl [2, 3, 4, 1, 5, 0] rfl))
    · intro hq H locs ls hP hS hl
      subst hq
      refine (hWW _ _ _ _ _).mp ?_
      replace hf := x_ip rfl (x_in (by decide) hf)
      refine lv_iload hx hb dX1_isBefore_47 (lv_at hl 5 rfl) ?_
      refine lv_bipush (v := 16) hx hb dX1_isBefore_49 (by decide) ?_
      refine lv_icmp_ge (tgt := 85) hx hb dX1_isBefore_51 (by decide) (fun c_6 => ?_) (fun c_6 => ?_)
      · replace hf := x_ip c_6 hf
        refine lv_iload_n hx hb dX1_isBefore_85 rfl (lv_at hl 3 rfl) ?_
        refine lv_iload hx hb dX1_isBefore_86 (lv_at hl 4 rfl) ?_
        refine lv_icmp_ne (tgt := 112) hx hb dX1_isBefore_88 (by decide) (fun c_7 => ?_) (fun c_7 => ?_)
        · replace hf := x_in c_7 hf
          refine lv_iconst (v := 0) hx hb dX1_isBefore_112 (by decide) ?_
          refine lv_istore (lv' := [(5, .int 0), (0, .ref o1), (1, .int l1), (2, .int l2), (3, .int l3), (4, .int l4)]) hx hb dX1_isBefore_113 hl (by decide) rfl (fun ls hl => ?_)
          exact (hWW _ _ _ _ _).mpr ((ih (2, 0, 0, l3, l4, 0) _ hf rfl _ _ _ _ _ _ rfl).2.2 rfl H locs ls hP hS (lv_sub hl [1, 4, 5, 0] rfl))
        · replace hf := x_ip c_7 hf
          refine lv_aload_n hx hb dX1_isBefore_91 rfl (lv_at hl 0 rfl) ?_
          refine va_get (D := (dC, dI)) (ci := 1) (v := .ref a1_2) (C := RX1) (T := TX1) (N := 6) hx hb hts i_X1_isBefore_X1 hown hK hP 0 rfl rfl 2 (by decide) k_1 (fun _ h9 => h9) rfl dX1_isBefore_92 ?_
          refine lv_iload_n hx hb dX1_isBefore_95 rfl (lv_at hl 1 rfl) ?_
          obtain ⟨g_8, hf⟩ := x_gu hf
          refine va_iald hx hb hK hP 3 0 rfl rfl (x_gdin g_8) dX1_isBefore_96 ?_
          refine lv_aload_n hx hb dX1_isBefore_97 rfl (lv_at hl 0 rfl) ?_
          refine va_get (D := (dC, dI)) (ci := 1) (v := .ref a1_2) (C := RX1) (T := TX1) (N := 6) hx hb hts i_X1_isBefore_X1 hown hK hP 0 rfl rfl 2 (by decide) k_1 (fun _ h9 => h9) rfl dX1_isBefore_98 ?_
          refine lv_iload_n hx hb dX1_isBefore_101 rfl (lv_at hl 2 rfl) ?_
          obtain ⟨g_9, hf⟩ := x_gu hf
          refine va_iald hx hb hK hP 3 0 rfl rfl (x_gdin g_9) dX1_isBefore_102 ?_
          refine lv_icmp_ge (tgt := 110) hx hb dX1_isBefore_103 (by decide) (fun c_10 => ?_) (fun c_10 => ?_)
          · replace hf := x_ip c_10 hf
            refine lv_iconst (v := 0) hx hb dX1_isBefore_110 (by decide) ?_
            obtain rfl := Option.some.inj hf
            exact W.zret (ty := .boolean) hx hb hr rfl (fun t ht hW => ⟨⟨_, (), rfl, ⟨rfl, rfl⟩, trivial⟩, hS.F ht⟩) hS.2.2 dX1_isBefore_111
          · replace hf := x_in c_10 hf
            refine lv_iconst (v := 1) hx hb dX1_isBefore_106 (by decide) ?_
            refine lv_goto (tgt := 111) hx hb dX1_isBefore_107 (by decide) ?_
            obtain rfl := Option.some.inj hf
            exact W.zret (ty := .boolean) hx hb hr rfl (fun t ht hW => ⟨⟨_, (), rfl, ⟨rfl, rfl⟩, trivial⟩, hS.F ht⟩) hS.2.2 dX1_isBefore_111
      · replace hf := x_in c_6 hf
        refine lv_aload_n hx hb dX1_isBefore_54 rfl (lv_at hl 0 rfl) ?_
        refine va_get (D := (dC, dI)) (ci := 1) (v := .ref a1_2) (C := RX1) (T := TX1) (N := 6) hx hb hts i_X1_isBefore_X1 hown hK hP 0 rfl rfl 2 (by decide) k_1 (fun _ h9 => h9) rfl dX1_isBefore_55 ?_
        refine lv_iload hx hb dX1_isBefore_58 (lv_at hl 4 rfl) ?_
        obtain ⟨g_11, hf⟩ := x_gu hf
        refine va_iald hx hb hK hP 3 0 rfl rfl (x_gdin g_11) dX1_isBefore_60 ?_
        refine lv_aload_n hx hb dX1_isBefore_61 rfl (lv_at hl 0 rfl) ?_
        refine va_get (D := (dC, dI)) (ci := 1) (v := .ref a1_2) (C := RX1) (T := TX1) (N := 6) hx hb hts i_X1_isBefore_X1 hown hK hP 0 rfl rfl 2 (by decide) k_1 (fun _ h9 => h9) rfl dX1_isBefore_62 ?_
        refine lv_iload_n hx hb dX1_isBefore_65 rfl (lv_at hl 3 rfl) ?_
        obtain ⟨g_12, hf⟩ := x_gu hf
        refine va_iald hx hb hK hP 3 0 rfl rfl (x_gdin g_12) dX1_isBefore_66 ?_
        refine lv_icmp_le (tgt := 85) hx hb dX1_isBefore_67 (by decide) (fun c_13 => ?_) (fun c_13 => ?_)
        · replace hf := x_ip c_13 hf
          refine lv_iload_n hx hb dX1_isBefore_85 rfl (lv_at hl 3 rfl) ?_
          refine lv_iload hx hb dX1_isBefore_86 (lv_at hl 4 rfl) ?_
          refine lv_icmp_ne (tgt := 112) hx hb dX1_isBefore_88 (by decide) (fun c_14 => ?_) (fun c_14 => ?_)
          · replace hf := x_in c_14 hf
            refine lv_iconst (v := 0) hx hb dX1_isBefore_112 (by decide) ?_
            refine lv_istore (lv' := [(5, .int 0), (0, .ref o1), (1, .int l1), (2, .int l2), (3, .int l3), (4, .int l4)]) hx hb dX1_isBefore_113 hl (by decide) rfl (fun ls hl => ?_)
            exact (hWW _ _ _ _ _).mpr ((ih (2, 0, 0, l3, l4, 0) _ hf rfl _ _ _ _ _ _ rfl).2.2 rfl H locs ls hP hS (lv_sub hl [1, 4, 5, 0] rfl))
          · replace hf := x_ip c_14 hf
            refine lv_aload_n hx hb dX1_isBefore_91 rfl (lv_at hl 0 rfl) ?_
            refine va_get (D := (dC, dI)) (ci := 1) (v := .ref a1_2) (C := RX1) (T := TX1) (N := 6) hx hb hts i_X1_isBefore_X1 hown hK hP 0 rfl rfl 2 (by decide) k_1 (fun _ h9 => h9) rfl dX1_isBefore_92 ?_
            refine lv_iload_n hx hb dX1_isBefore_95 rfl (lv_at hl 1 rfl) ?_
            obtain ⟨g_15, hf⟩ := x_gu hf
            refine va_iald hx hb hK hP 3 0 rfl rfl (x_gdin g_15) dX1_isBefore_96 ?_
            refine lv_aload_n hx hb dX1_isBefore_97 rfl (lv_at hl 0 rfl) ?_
            refine va_get (D := (dC, dI)) (ci := 1) (v := .ref a1_2) (C := RX1) (T := TX1) (N := 6) hx hb hts i_X1_isBefore_X1 hown hK hP 0 rfl rfl 2 (by decide) k_1 (fun _ h9 => h9) rfl dX1_isBefore_98 ?_
            refine lv_iload_n hx hb dX1_isBefore_101 rfl (lv_at hl 2 rfl) ?_
            obtain ⟨g_16, hf⟩ := x_gu hf
            refine va_iald hx hb hK hP 3 0 rfl rfl (x_gdin g_16) dX1_isBefore_102 ?_
            refine lv_icmp_ge (tgt := 110) hx hb dX1_isBefore_103 (by decide) (fun c_17 => ?_) (fun c_17 => ?_)
            · replace hf := x_ip c_17 hf
              refine lv_iconst (v := 0) hx hb dX1_isBefore_110 (by decide) ?_
              obtain rfl := Option.some.inj hf
              exact W.zret (ty := .boolean) hx hb hr rfl (fun t ht hW => ⟨⟨_, (), rfl, ⟨rfl, rfl⟩, trivial⟩, hS.F ht⟩) hS.2.2 dX1_isBefore_111
            · replace hf := x_in c_17 hf
              refine lv_iconst (v := 1) hx hb dX1_isBefore_106 (by decide) ?_
              refine lv_goto (tgt := 111) hx hb dX1_isBefore_107 (by decide) ?_
              obtain rfl := Option.some.inj hf
              exact W.zret (ty := .boolean) hx hb hr rfl (fun t ht hW => ⟨⟨_, (), rfl, ⟨rfl, rfl⟩, trivial⟩, hS.F ht⟩) hS.2.2 dX1_isBefore_111
        · replace hf := x_in c_13 hf
          refine lv_aload_n hx hb dX1_isBefore_70 rfl (lv_at hl 0 rfl) ?_
          refine va_get (D := (dC, dI)) (ci := 1) (v := .ref a1_0) (C := RX1) (T := TX1) (N := 6) hx hb hts i_X1_isBefore_X1 hown hK hP 0 rfl rfl 0 (by decide) k_2 (fun _ h9 => h9) rfl dX1_isBefore_71 ?_
          refine lv_iload hx hb dX1_isBefore_74 (lv_at hl 4 rfl) ?_
          obtain ⟨g_18, hf⟩ := x_gu hf
          refine va_iald hx hb hK hP 1 0 rfl rfl (x_gdin g_18) dX1_isBefore_76 ?_
          refine lv_istore (lv' := [(4, .int (g1_0 (Int32.toNatClampNeg l4))), (0, .ref o1), (1, .int l1), (2, .int l2), (3, .int l3), (5, .int l5)]) hx hb dX1_isBefore_77 hl (by decide) rfl (fun ls hl => ?_)
          refine lv_iinc (v := (l5 + 1)) (lv' := [(5, .int (l5 + 1)), (4, .int (g1_0 (Int32.toNatClampNeg l4))), (0, .ref o1), (1, .int l1), (2, .int l2), (3, .int l3)]) hx hb dX1_isBefore_79 hl (k := 5) rfl rfl (by decide) rfl (fun ls hl => ?_)
          refine lv_goto (tgt := 47) hx hb dX1_isBefore_82 (by decide) ?_
          exact (hWW _ _ _ _ _).mpr ((ih (1, l1, l2, l3, g1_0 (Int32.toNatClampNeg l4), l5 + 1) _ hf rfl _ _ _ _ _ _ rfl).2.1 rfl H locs ls hP hS (lv_sub hl [2, 3, 4, 5, 1, 0] rfl))
    · intro hq H locs ls hP hS hl
      subst hq
      refine (hWW _ _ _ _ _).mp ?_
      replace hf := x_ip rfl (x_in (by decide) (x_in (by decide) hf))
      refine lv_iload hx hb dX1_isBefore_115 (lv_at hl 3 rfl) ?_
      refine lv_bipush (v := 16) hx hb dX1_isBefore_117 (by decide) ?_
      refine lv_icmp_ge (tgt := 160) hx hb dX1_isBefore_119 (by decide) (fun c_19 => ?_) (fun c_19 => ?_)
      · replace hf := x_ip c_19 hf
        refine lv_aload_n hx hb dX1_isBefore_160 rfl (lv_at hl 0 rfl) ?_
        refine va_get (D := (dC, dI)) (ci := 1) (v := .ref a1_1) (C := RX1) (T := TX1) (N := 6) hx hb hts i_X1_isBefore_X1 hown hK hP 0 rfl rfl 1 (by decide) k_3 (fun _ h9 => h9) rfl dX1_isBefore_161 ?_
        refine lv_iload_n hx hb dX1_isBefore_164 rfl (lv_at hl 1 rfl) ?_
        obtain ⟨g_20, hf⟩ := x_gu hf
        refine va_iald hx hb hK hP 2 0 rfl rfl (x_gdin g_20) dX1_isBefore_165 ?_
        refine lv_aload_n hx hb dX1_isBefore_166 rfl (lv_at hl 0 rfl) ?_
        refine va_get (D := (dC, dI)) (ci := 1) (v := .ref a1_1) (C := RX1) (T := TX1) (N := 6) hx hb hts i_X1_isBefore_X1 hown hK hP 0 rfl rfl 1 (by decide) k_3 (fun _ h9 => h9) rfl dX1_isBefore_167 ?_
        refine lv_iload hx hb dX1_isBefore_170 (lv_at hl 2 rfl) ?_
        obtain ⟨g_21, hf⟩ := x_gu hf
        refine va_iald hx hb hK hP 2 0 rfl rfl (x_gdin g_21) dX1_isBefore_172 ?_
        refine lv_icmp_ge (tgt := 180) hx hb dX1_isBefore_173 (by decide) (fun c_22 => ?_) (fun c_22 => ?_)
        · replace hf := x_ip c_22 hf
          refine lv_iconst (v := 0) hx hb dX1_isBefore_180 (by decide) ?_
          obtain rfl := Option.some.inj hf
          exact W.zret (ty := .boolean) hx hb hr rfl (fun t ht hW => ⟨⟨_, (), rfl, ⟨rfl, rfl⟩, trivial⟩, hS.F ht⟩) hS.2.2 dX1_isBefore_181
        · replace hf := x_in c_22 hf
          refine lv_iconst (v := 1) hx hb dX1_isBefore_176 (by decide) ?_
          refine lv_goto (tgt := 181) hx hb dX1_isBefore_177 (by decide) ?_
          obtain rfl := Option.some.inj hf
          exact W.zret (ty := .boolean) hx hb hr rfl (fun t ht hW => ⟨⟨_, (), rfl, ⟨rfl, rfl⟩, trivial⟩, hS.F ht⟩) hS.2.2 dX1_isBefore_181
      · replace hf := x_in c_19 hf
        refine lv_aload_n hx hb dX1_isBefore_122 rfl (lv_at hl 0 rfl) ?_
        refine va_get (D := (dC, dI)) (ci := 1) (v := .ref a1_0) (C := RX1) (T := TX1) (N := 6) hx hb hts i_X1_isBefore_X1 hown hK hP 0 rfl rfl 0 (by decide) k_2 (fun _ h9 => h9) rfl dX1_isBefore_123 ?_
        refine lv_iload_n hx hb dX1_isBefore_126 rfl (lv_at hl 1 rfl) ?_
        obtain ⟨g_23, hf⟩ := x_gu hf
        refine va_iald hx hb hK hP 1 0 rfl rfl (x_gdin g_23) dX1_isBefore_127 ?_
        refine lv_aload_n hx hb dX1_isBefore_128 rfl (lv_at hl 0 rfl) ?_
        refine va_get (D := (dC, dI)) (ci := 1) (v := .ref a1_0) (C := RX1) (T := TX1) (N := 6) hx hb hts i_X1_isBefore_X1 hown hK hP 0 rfl rfl 0 (by decide) k_2 (fun _ h9 => h9) rfl dX1_isBefore_129 ?_
        refine lv_iload hx hb dX1_isBefore_132 (lv_at hl 2 rfl) ?_
        obtain ⟨g_24, hf⟩ := x_gu hf
        refine va_iald hx hb hK hP 1 0 rfl rfl (x_gdin g_24) dX1_isBefore_134 ?_
        refine lv_icmp_eq (tgt := 160) hx hb dX1_isBefore_135 (by decide) (fun c_25 => ?_) (fun c_25 => ?_)
        · replace hf := x_ip c_25 hf
          refine lv_aload_n hx hb dX1_isBefore_160 rfl (lv_at hl 0 rfl) ?_
          refine va_get (D := (dC, dI)) (ci := 1) (v := .ref a1_1) (C := RX1) (T := TX1) (N := 6) hx hb hts i_X1_isBefore_X1 hown hK hP 0 rfl rfl 1 (by decide) k_3 (fun _ h9 => h9) rfl dX1_isBefore_161 ?_
          refine lv_iload_n hx hb dX1_isBefore_164 rfl (lv_at hl 1 rfl) ?_
          obtain ⟨g_26, hf⟩ := x_gu hf
          refine va_iald hx hb hK hP 2 0 rfl rfl (x_gdin g_26) dX1_isBefore_165 ?_
          refine lv_aload_n hx hb dX1_isBefore_166 rfl (lv_at hl 0 rfl) ?_
          refine va_get (D := (dC, dI)) (ci := 1) (v := .ref a1_1) (C := RX1) (T := TX1) (N := 6) hx hb hts i_X1_isBefore_X1 hown hK hP 0 rfl rfl 1 (by decide) k_3 (fun _ h9 => h9) rfl dX1_isBefore_167 ?_
          refine lv_iload hx hb dX1_isBefore_170 (lv_at hl 2 rfl) ?_
          obtain ⟨g_27, hf⟩ := x_gu hf
          refine va_iald hx hb hK hP 2 0 rfl rfl (x_gdin g_27) dX1_isBefore_172 ?_
          refine lv_icmp_ge (tgt := 180) hx hb dX1_isBefore_173 (by decide) (fun c_28 => ?_) (fun c_28 => ?_)
          · replace hf := x_ip c_28 hf
            refine lv_iconst (v := 0) hx hb dX1_isBefore_180 (by decide) ?_
            obtain rfl := Option.some.inj hf
            exact W.zret (ty := .boolean) hx hb hr rfl (fun t ht hW => ⟨⟨_, (), rfl, ⟨rfl, rfl⟩, trivial⟩, hS.F ht⟩) hS.2.2 dX1_isBefore_181
          · replace hf := x_in c_28 hf
            refine lv_iconst (v := 1) hx hb dX1_isBefore_176 (by decide) ?_
            refine lv_goto (tgt := 181) hx hb dX1_isBefore_177 (by decide) ?_
            obtain rfl := Option.some.inj hf
            exact W.zret (ty := .boolean) hx hb hr rfl (fun t ht hW => ⟨⟨_, (), rfl, ⟨rfl, rfl⟩, trivial⟩, hS.F ht⟩) hS.2.2 dX1_isBefore_181
        · replace hf := x_in c_25 hf
          refine lv_aload_n hx hb dX1_isBefore_138 rfl (lv_at hl 0 rfl) ?_
          refine va_get (D := (dC, dI)) (ci := 1) (v := .ref a1_0) (C := RX1) (T := TX1) (N := 6) hx hb hts i_X1_isBefore_X1 hown hK hP 0 rfl rfl 0 (by decide) k_2 (fun _ h9 => h9) rfl dX1_isBefore_139 ?_
          refine lv_iload_n hx hb dX1_isBefore_142 rfl (lv_at hl 1 rfl) ?_
          obtain ⟨g_29, hf⟩ := x_gu hf
          refine va_iald hx hb hK hP 1 0 rfl rfl (x_gdin g_29) dX1_isBefore_143 ?_
          refine lv_istore_n (lv' := [(3, .int (g1_0 (Int32.toNatClampNeg l3))), (0, .ref o1), (4, .int l4), (5, .int l5)]) hx hb dX1_isBefore_144 rfl hl (by decide) rfl (fun ls hl => ?_)
          refine lv_aload_n hx hb dX1_isBefore_145 rfl (lv_at hl 1 rfl) ?_
          refine va_get (D := (dC, dI)) (ci := 1) (v := .ref a1_0) (C := RX1) (T := TX1) (N := 6) hx hb hts i_X1_isBefore_X1 hown hK hP 0 rfl rfl 0 (by decide) k_2 (fun _ h9 => h9) rfl dX1_isBefore_146 ?_
          refine lv_iload hx hb dX1_isBefore_149 (lv_at hl 2 rfl) ?_
          obtain ⟨g_30, hf⟩ := x_gu hf
          refine va_iald hx hb hK hP 1 0 rfl rfl (x_gdin g_30) dX1_isBefore_151 ?_
          refine lv_istore (lv' := [(4, .int (g1_0 (Int32.toNatClampNeg l4))), (3, .int (g1_0 (Int32.toNatClampNeg l3))), (0, .ref o1), (5, .int l5)]) hx hb dX1_isBefore_152 hl (by decide) rfl (fun ls hl => ?_)
          refine lv_iinc (v := (l5 + 1)) (lv' := [(5, .int (l5 + 1)), (4, .int (g1_0 (Int32.toNatClampNeg l4))), (3, .int (g1_0 (Int32.toNatClampNeg l3))), (0, .ref o1)]) hx hb dX1_isBefore_154 hl (k := 3) rfl rfl (by decide) rfl (fun ls hl => ?_)
          refine lv_goto (tgt := 115) hx hb dX1_isBefore_157 (by decide) ?_
          exact (hWW _ _ _ _ _).mpr ((ih (2, 0, 0, g1_0 (Int32.toNatClampNeg l3), g1_0 (Int32.toNatClampNeg l4), l5 + 1) _ hf rfl _ _ _ _ _ _ rfl).2.2 rfl H locs ls hP hS (lv_sub hl [3, 2, 1, 0] rfl)))
  refine lv_iload_n hx hb dX1_isBefore_0 rfl (lv_at hl 1 rfl) ?_
  refine lv_istore_n (lv' := [(3, .int p1), (0, .ref o1), (1, .int p1), (2, .int p2)]) hx hb dX1_isBefore_1 rfl hl (by decide) rfl (fun ls hl => ?_)
  refine lv_iload_n hx hb dX1_isBefore_2 rfl (lv_at hl 3 rfl) ?_
  refine lv_istore (lv' := [(4, .int p2), (3, .int p1), (0, .ref o1), (1, .int p1), (2, .int p2)]) hx hb dX1_isBefore_3 hl (by decide) rfl (fun ls hl => ?_)
  refine lv_iconst (v := 0) hx hb dX1_isBefore_5 (by decide) ?_
  refine lv_istore (lv' := [(5, .int 0), (4, .int p2), (3, .int p1), (0, .ref o1), (1, .int p1), (2, .int p2)]) hx hb dX1_isBefore_6 hl (by decide) rfl (fun ls hl => ?_)
  exact (hWW _ _ _ _ _).mpr ((J (0, p1, p2, p1, p2, 0) _ hf rfl _ _ _ _ _ _ rfl).1 rfl H locs ls hP hS (lv_sub hl [3, 4, 5, 2, 1, 0] rfl))

def f_X3_headOf (p0 : Int32) (p1 : Int32) : Option (Int32) := some ((((31 : Int32) * p1) + p0) &&& 255)
set_option maxHeartbeats 4000000 in
set_option maxRecDepth 100000 in
theorem c_X3_headOf (l : Launch) (dC : Nat → ClassId) (dI : Nat → Nat → Nat) (cyI cyZ cyJ : ClassId) (sz : Nat) (p0 : Int32) (p1 : Int32) (R : Int32) (hf : f_X3_headOf p0 p1 = some R) : Met l yX3_headOf wsX3_headOf ({ frames := 0, cells := 0, slots := 0, locals := 0 }) (va_Pc [.int p0, .int p1] (x_Pre (dC, dI) (x_T cyI cyZ cyJ) [] sz)) (va_Qi (fun (r : Int32) (_ : Unit) => r = R) (fun _ _ => True) (x_new sz)) 0 0 (x_new sz) := by
  refine Met.ofW (cc := cX3_headOf) (maxL := 2) (ret := (some .int)) (by decide) rfl ?_
  intro p e s m args below meth c s₁ B hml hv
  obtain ⟨rfl, hsz, hP, hK, hN⟩ := hv
  have hx := B.exec
  have hb := B.bytes
  have hr := B.returns
  have hts := atoms_spec (ws := wsX3_headOf) B.pre
  have hown : s.vm.findClass RX3 = some m.cls := findClass_of_methodNamed B.named
  subst hsz
  have hA : ∀ q : Nat, s.heap.size ≤ q → x_new s.heap.size q := fun _ h => h
  have hS : va_S (x_new s.heap.size) s.heap s.heap [] := va_S.rf
  have hP : va_P (dC, dI) vwCl [] s.heap := hP
  have hl := lv_entry ([.int p0, .int p1]) (n := 2) (Nat.le_of_ble_eq_true rfl)
  rw [lg_entry_eq]
  generalize (lg_sl ([.int p0, .int p1]) ++ List.replicate (2 - (lg_sl ([.int p0, .int p1])).length) Slot.unset).toArray = ls at hl ⊢
  have hl : lv_has ls 2 [(0, .int p0), (1, .int p1)] := hl
  obtain ⟨H, hH⟩ : ∃ z, z = s.heap := ⟨_, rfl⟩
  refine x_here hH ?_
  have hP : va_P (dC, dI) vwCl [] H := by rw [hH]; exact hP
  have hS : va_S (x_new s.heap.size) s.heap H [] := by rw [hH]; exact va_S.rf
  clear hH
  obtain ⟨locs, hlo⟩ : ∃ z : List Loc, z = [] := ⟨_, rfl⟩
  refine x_herl hlo ?_
  have hS : va_S (x_new s.heap.size) s.heap H locs := by rw [hlo]; exact hS
  clear hlo
  unfold f_X3_headOf at hf
  refine lv_bipush (v := 31) hx hb dX3_headOf_0 (by decide) ?_
  refine lv_iload_n hx hb dX3_headOf_2 rfl (lv_at hl 1 rfl) ?_
  refine lv_imul hx hb dX3_headOf_3 ?_
  refine lv_iload_n hx hb dX3_headOf_4 rfl (lv_at hl 0 rfl) ?_
  refine lv_iadd hx hb dX3_headOf_5 ?_
  refine lv_sipush (v := 255) hx hb dX3_headOf_6 (by decide) ?_
  refine lv_iand hx hb dX3_headOf_9 ?_
  obtain rfl := Option.some.inj hf
  exact W.iret hx hb hr (fun t ht hW => ⟨⟨_, (), rfl, rfl, trivial⟩, hS.F ht⟩) hS.2.2 dX3_headOf_10

def f_X3_clear (v3_2 : Int32) (v3_3 : Int32) (v3_4 : Int32) (v3_13 : Int32) (v3_14 : Int32) (g3_10 : Nat → Int32) (p1 : Int32) (p2 : Int32) : Option (Int32 × Int32 × Int32 × Int32 × Int32 × (Nat → Int32)) := (f_J7_fill_53178_a3_10 g3_10 (-1)) >>= (fun r_1 => some (p1, p1 + p2, 0, -1, -1, r_1))
theorem i_X3_clear_X3 : ∀ w ∈ wsX30, w ∈ wsX3_clear := by decide +kernel
set_option maxHeartbeats 4000000 in
set_option maxRecDepth 100000 in
theorem c_X3_clear (l : Launch) (dC : Nat → ClassId) (dI : Nat → Nat → Nat) (cyI cyZ cyJ : ClassId) (sz : Nat) (o3 : Nat) (o7 : Nat) (o1 : Nat) (v3_2 : Int32) (v3_3 : Int32) (v3_4 : Int32) (a3_5 : Nat) (a3_6 : Nat) (a3_7 : Nat) (a3_8 : Nat) (a3_9 : Nat) (a3_10 : Nat) (a3_11 : Nat) (a3_12 : Nat) (v3_13 : Int32) (v3_14 : Int32) (a3_15 : Nat) (a3_16 : Nat) (g3_10 : Nat → Int32) (p1 : Int32) (p2 : Int32) (R : Int32 × Int32 × Int32 × Int32 × Int32 × (Nat → Int32)) (hf : f_X3_clear v3_2 v3_3 v3_4 v3_13 v3_14 g3_10 p1 p2 = some R) : Met l yX3_clear wsX3_clear ({ frames := 1, cells := 0, slots := 0, locals := 23 }) (va_Pc [.ref o3, .int p1, .int p2] (x_PreD (dC, dI) (x_T cyI cyZ cyJ) [(o3, .inr (3, [.ref o7, .ref o1, .int v3_2, .int v3_3, .int v3_4, .ref a3_5, .ref a3_6, .ref a3_7, .ref a3_8, .ref a3_9, .ref a3_10, .ref a3_11, .ref a3_12, .int v3_13, .int v3_14, .ref a3_15, .ref a3_16])), (a3_10, .inl (cyI, 256, .inl g3_10))] sz)) (va_Qv (fun _ : Unit => True) (fun (_ : Unit) (t : State) => va_P (dC, dI) vwCl [(o3, .inr (3, [.ref o7, .ref o1, .int (R.1), .int (R.2.1), .int (R.2.2.1), .ref a3_5, .ref a3_6, .ref a3_7, .ref a3_8, .ref a3_9, .ref a3_10, .ref a3_11, .ref a3_12, .int (R.2.2.2.1), .int (R.2.2.2.2.1), .ref a3_15, .ref a3_16])), (a3_10, .inl (cyI, 256, .inl R.2.2.2.2.2))] t.heap ∧ va_K (dC, dI) vwCl (x_T cyI cyZ cyJ) t ∧ va_D (va_A [(o3, .inr (3, [.ref o7, .ref o1, .int v3_2, .int v3_3, .int v3_4, .ref a3_5, .ref a3_6, .ref a3_7, .ref a3_8, .ref a3_9, .ref a3_10, .ref a3_11, .ref a3_12, .int v3_13, .int v3_14, .ref a3_15, .ref a3_16])), (a3_10, .inl (cyI, 256, .inl g3_10))] sz) [(o3, .inr (3, [.ref o7, .ref o1, .int (R.1), .int (R.2.1), .int (R.2.2.1), .ref a3_5, .ref a3_6, .ref a3_7, .ref a3_8, .ref a3_9, .ref a3_10, .ref a3_11, .ref a3_12, .int (R.2.2.2.1), .int (R.2.2.2.2.1), .ref a3_15, .ref a3_16])), (a3_10, .inl (cyI, 256, .inl R.2.2.2.2.2))]) (va_A [(o3, .inr (3, [.ref o7, .ref o1, .int v3_2, .int v3_3, .int v3_4, .ref a3_5, .ref a3_6, .ref a3_7, .ref a3_8, .ref a3_9, .ref a3_10, .ref a3_11, .ref a3_12, .int v3_13, .int v3_14, .ref a3_15, .ref a3_16])), (a3_10, .inl (cyI, 256, .inl g3_10))] sz)) 0 0 (va_A [(o3, .inr (3, [.ref o7, .ref o1, .int v3_2, .int v3_3, .int v3_4, .ref a3_5, .ref a3_6, .ref a3_7, .ref a3_8, .ref a3_9, .ref a3_10, .ref a3_11, .ref a3_12, .int v3_13, .int v3_14, .ref a3_15, .ref a3_16])), (a3_10, .inl (cyI, 256, .inl g3_10))] sz) := by
  refine Met.ofW (cc := cX3_clear) (maxL := 3) (ret := none) (by decide) rfl ?_
  intro p e s m args below meth c s₁ B hml hv
  obtain ⟨rfl, ⟨hsz, hP, hK, hN⟩, hD0⟩ := hv
  have hx := B.exec
  have hb := B.bytes
  have hr := B.returns
  have hts := atoms_spec (ws := wsX3_clear) B.pre
  have hown : s.vm.findClass RX3 = some m.cls := findClass_of_methodNamed B.named
  have k_1 := hts (.fieldLink RX3 63 "FlowJudge$Frames" "locals" "I") (by decide +kernel)
  have k_2 := hts (.fieldLink RX3 66 "FlowJudge$Frames" "size" "I") (by decide +kernel)
  have k_3 := hts (.fieldLink RX3 69 "FlowJudge$Frames" "count" "I") (by decide +kernel)
  have k_4 := hts (.fieldLink RX3 36 "FlowJudge$Frames" "firstAwaited" "I") (by decide +kernel)
  have k_5 := hts (.fieldLink RX3 40 "FlowJudge$Frames" "lastAwaited" "I") (by decide +kernel)
  have k_6 := hts (.fieldLink RX3 27 "FlowJudge$Frames" "heads" "[I") (by decide +kernel)
  subst hsz
  have hD := hD0.self (sz := s.heap.size)
  generalize hAe : va_A [(o3, .inr (3, [.ref o7, .ref o1, .int v3_2, .int v3_3, .int v3_4, .ref a3_5, .ref a3_6, .ref a3_7, .ref a3_8, .ref a3_9, .ref a3_10, .ref a3_11, .ref a3_12, .int v3_13, .int v3_14, .ref a3_15, .ref a3_16])), (a3_10, .inl (cyI, 256, .inl g3_10))] s.heap.size = A at hD ⊢
  have hA : ∀ q : Nat, s.heap.size ≤ q → A q := fun q h => by rw [← hAe]; exact Or.inr h
  have hP : va_P (dC, dI) vwCl [(o3, .inr (3, [.ref o7, .ref o1, .int v3_2, .int v3_3, .int v3_4, .ref a3_5, .ref a3_6, .ref a3_7, .ref a3_8, .ref a3_9, .ref a3_10, .ref a3_11, .ref a3_12, .int v3_13, .int v3_14, .ref a3_15, .ref a3_16])), (a3_10, .inl (cyI, 256, .inl g3_10))] s.heap := hP
  have hl := lv_entry ([.ref o3, .int p1, .int p2]) (n := 3) (Nat.le_of_ble_eq_true rfl)
  rw [lg_entry_eq]
  generalize (lg_sl ([.ref o3, .int p1, .int p2]) ++ List.replicate (3 - (lg_sl ([.ref o3, .int p1, .int p2])).length) Slot.unset).toArray = ls at hl ⊢
  have hl : lv_has ls 3 [(0, .ref o3), (1, .int p1), (2, .int p2)] := hl
  obtain ⟨H, hH⟩ : ∃ z, z = s.heap := ⟨_, rfl⟩
  refine x_here hH ?_
  have hP : va_P (dC, dI) vwCl [(o3, .inr (3, [.ref o7, .ref o1, .int v3_2, .int v3_3, .int v3_4, .ref a3_5, .ref a3_6, .ref a3_7, .ref a3_8, .ref a3_9, .ref a3_10, .ref a3_11, .ref a3_12, .int v3_13, .int v3_14, .ref a3_15, .ref a3_16])), (a3_10, .inl (cyI, 256, .inl g3_10))] H := by rw [hH]; exact hP
  have hS : va_S A s.heap H [] := by rw [hH]; exact va_S.rf
  clear hH
  obtain ⟨locs, hlo⟩ : ∃ z : List Loc, z = [] := ⟨_, rfl⟩
  refine x_herl hlo ?_
  have hS : va_S A s.heap H locs := by rw [hlo]; exact hS
  clear hlo
  unfold f_X3_clear at hf
  refine lv_aload_n hx hb dX3_clear_0 rfl (lv_at hl 0 rfl) ?_
  refine lv_iload_n hx hb dX3_clear_1 rfl (lv_at hl 1 rfl) ?_
  refine va_put (D := (dC, dI)) (ci := 3) (v := .int p1) (ty := .int) (C := RX3) (T := TX3) (N := 17) hx hb hts i_X3_clear_X3 tyX3 tyX3_ok nmX3 hown hK hP hD hS 0 rfl rfl 2 (by decide) k_1 (fun _ h9 => h9) rfl (by decide +kernel) rfl rfl (Nat.le_of_ble_eq_true rfl) dX3_clear_2 (fun H locs hP hD hS => ?_)
  have hP : va_P (dC, dI) vwCl [(o3, .inr (3, [.ref o7, .ref o1, .int p1, .int v3_3, .int v3_4, .ref a3_5, .ref a3_6, .ref a3_7, .ref a3_8, .ref a3_9, .ref a3_10, .ref a3_11, .ref a3_12, .int v3_13, .int v3_14, .ref a3_15, .ref a3_16])), (a3_10, .inl (cyI, 256, .inl g3_10))] H := hP
  have hD : va_D A [(o3, .inr (3, [.ref o7, .ref o1, .int p1, .int v3_3, .int v3_4, .ref a3_5, .ref a3_6, .ref a3_7, .ref a3_8, .ref a3_9, .ref a3_10, .ref a3_11, .ref a3_12, .int v3_13, .int v3_14, .ref a3_15, .ref a3_16])), (a3_10, .inl (cyI, 256, .inl g3_10))] := hD
  refine lv_aload_n hx hb dX3_clear_5 rfl (lv_at hl 0 rfl) ?_
  refine lv_iload_n hx hb dX3_clear_6 rfl (lv_at hl 1 rfl) ?_
  refine lv_iload_n hx hb dX3_clear_7 rfl (lv_at hl 2 rfl) ?_
  refine lv_iadd hx hb dX3_clear_8 ?_
  refine va_put (D := (dC, dI)) (ci := 3) (v := .int (p1 + p2)) (ty := .int) (C := RX3) (T := TX3) (N := 17) hx hb hts i_X3_clear_X3 tyX3 tyX3_ok nmX3 hown hK hP hD hS 0 rfl rfl 3 (by decide) k_2 (fun _ h9 => h9) rfl (by decide +kernel) rfl rfl (Nat.le_of_ble_eq_true rfl) dX3_clear_9 (fun H locs hP hD hS => ?_)
  have hP : va_P (dC, dI) vwCl [(o3, .inr (3, [.ref o7, .ref o1, .int p1, .int (p1 + p2), .int v3_4, .ref a3_5, .ref a3_6, .ref a3_7, .ref a3_8, .ref a3_9, .ref a3_10, .ref a3_11, .ref a3_12, .int v3_13, .int v3_14, .ref a3_15, .ref a3_16])), (a3_10, .inl (cyI, 256, .inl g3_10))] H := hP
  have hD : va_D A [(o3, .inr (3, [.ref o7, .ref o1, .int p1, .int (p1 + p2), .int v3_4, .ref a3_5, .ref a3_6, .ref a3_7, .ref a3_8, .ref a3_9, .ref a3_10, .ref a3_11, .ref a3_12, .int v3_13, .int v3_14, .ref a3_15, .ref a3_16])), (a3_10, .inl (cyI, 256, .inl g3_10))] := hD
  refine lv_aload_n hx hb dX3_clear_12 rfl (lv_at hl 0 rfl) ?_
  refine lv_iconst (v := 0) hx hb dX3_clear_13 (by decide) ?_
  refine va_put (D := (dC, dI)) (ci := 3) (v := .int 0) (ty := .int) (C := RX3) (T := TX3) (N := 17) hx hb hts i_X3_clear_X3 tyX3 tyX3_ok nmX3 hown hK hP hD hS 0 rfl rfl 4 (by decide) k_3 (fun _ h9 => h9) rfl (by decide +kernel) rfl rfl (Nat.le_of_ble_eq_true rfl) dX3_clear_14 (fun H locs hP hD hS => ?_)
  have hP : va_P (dC, dI) vwCl [(o3, .inr (3, [.ref o7, .ref o1, .int p1, .int (p1 + p2), .int 0, .ref a3_5, .ref a3_6, .ref a3_7, .ref a3_8, .ref a3_9, .ref a3_10, .ref a3_11, .ref a3_12, .int v3_13, .int v3_14, .ref a3_15, .ref a3_16])), (a3_10, .inl (cyI, 256, .inl g3_10))] H := hP
  have hD : va_D A [(o3, .inr (3, [.ref o7, .ref o1, .int p1, .int (p1 + p2), .int 0, .ref a3_5, .ref a3_6, .ref a3_7, .ref a3_8, .ref a3_9, .ref a3_10, .ref a3_11, .ref a3_12, .int v3_13, .int v3_14, .ref a3_15, .ref a3_16])), (a3_10, .inl (cyI, 256, .inl g3_10))] := hD
  refine lv_aload_n hx hb dX3_clear_17 rfl (lv_at hl 0 rfl) ?_
  refine lv_iconst (v := (-1)) hx hb dX3_clear_18 (by decide) ?_
  refine va_put (D := (dC, dI)) (ci := 3) (v := .int (-1)) (ty := .int) (C := RX3) (T := TX3) (N := 17) hx hb hts i_X3_clear_X3 tyX3 tyX3_ok nmX3 hown hK hP hD hS 0 rfl rfl 13 (by decide) k_4 (fun _ h9 => h9) rfl (by decide +kernel) rfl rfl (Nat.le_of_ble_eq_true rfl) dX3_clear_19 (fun H locs hP hD hS => ?_)
  have hP : va_P (dC, dI) vwCl [(o3, .inr (3, [.ref o7, .ref o1, .int p1, .int (p1 + p2), .int 0, .ref a3_5, .ref a3_6, .ref a3_7, .ref a3_8, .ref a3_9, .ref a3_10, .ref a3_11, .ref a3_12, .int (-1), .int v3_14, .ref a3_15, .ref a3_16])), (a3_10, .inl (cyI, 256, .inl g3_10))] H := hP
  have hD : va_D A [(o3, .inr (3, [.ref o7, .ref o1, .int p1, .int (p1 + p2), .int 0, .ref a3_5, .ref a3_6, .ref a3_7, .ref a3_8, .ref a3_9, .ref a3_10, .ref a3_11, .ref a3_12, .int (-1), .int v3_14, .ref a3_15, .ref a3_16])), (a3_10, .inl (cyI, 256, .inl g3_10))] := hD
  refine lv_aload_n hx hb dX3_clear_22 rfl (lv_at hl 0 rfl) ?_
  refine lv_iconst (v := (-1)) hx hb dX3_clear_23 (by decide) ?_
  refine va_put (D := (dC, dI)) (ci := 3) (v := .int (-1)) (ty := .int) (C := RX3) (T := TX3) (N := 17) hx hb hts i_X3_clear_X3 tyX3 tyX3_ok nmX3 hown hK hP hD hS 0 rfl rfl 14 (by decide) k_5 (fun _ h9 => h9) rfl (by decide +kernel) rfl rfl (Nat.le_of_ble_eq_true rfl) dX3_clear_24 (fun H locs hP hD hS => ?_)
  have hP : va_P (dC, dI) vwCl [(o3, .inr (3, [.ref o7, .ref o1, .int p1, .int (p1 + p2), .int 0, .ref a3_5, .ref a3_6, .ref a3_7, .ref a3_8, .ref a3_9, .ref a3_10, .ref a3_11, .ref a3_12, .int (-1), .int (-1), .ref a3_15, .ref a3_16])), (a3_10, .inl (cyI, 256, .inl g3_10))] H := hP
  have hD : va_D A [(o3, .inr (3, [.ref o7, .ref o1, .int p1, .int (p1 + p2), .int 0, .ref a3_5, .ref a3_6, .ref a3_7, .ref a3_8, .ref a3_9, .ref a3_10, .ref a3_11, .ref a3_12, .int (-1), .int (-1), .ref a3_15, .ref a3_16])), (a3_10, .inl (cyI, 256, .inl g3_10))] := hD
  refine lv_aload_n hx hb dX3_clear_27 rfl (lv_at hl 0 rfl) ?_
  refine va_get (D := (dC, dI)) (ci := 3) (v := .ref a3_10) (C := RX3) (T := TX3) (N := 17) hx hb hts i_X3_clear_X3 hown hK hP 0 rfl rfl 10 (by decide) k_6 (fun _ h9 => h9) rfl dX3_clear_28 ?_
  refine lv_iconst (v := (-1)) hx hb dX3_clear_31 (by decide) ?_
  obtain ⟨r_1, h_1, hf⟩ := x_bi hf
  have hPc := hP.sub (ws' := [(a3_10, .inl (cyI, 256, .inl g3_10))]) [1] rfl
  have hDc := hD.sub (ws' := [(a3_10, .inl (cyI, 256, .inl g3_10))]) [1] (by decide) rfl
  have hFc := va_free (wc := [(a3_10, .inl (cyI, 256, .inl g3_10))]) hD hS hA [1] rfl
  refine va_callv (va_runS (As := [.ref a3_10, .int (-1)]) (rest := []) ⟨hx, hb, hml, hown, hts⟩ (c_J7_fill_53178_a3_10 l dC dI cyI cyZ cyJ H.size a3_10 g3_10 (-1) r_1 h_1) (va_cwS 2 hts gX3_clear_J7_fill_53178 rfl rfl rfl (by decide +kernel) ⟨Nat.le_of_ble_eq_true rfl, Nat.le_of_ble_eq_true rfl⟩) (x_pSD hN hK hPc hDc) rfl rfl hl.1 rfl (lv_room (Nat.le_of_ble_eq_true rfl)) dX3_clear_32 ⟨Nat.le_of_ble_eq_true rfl, Nat.le_of_ble_eq_true rfl⟩) hS (fun q _ h => hFc q h) hFc (fun u t H1 locs ht hvm hw hB hz1 hk1 hS => ?_)
  obtain ⟨hP1, hK1, hD1⟩ := hB
  rw [ht] at hP1
  obtain ⟨hP, hD⟩ := va_join (wr := [(o3, .inr (3, [.ref o7, .ref o1, .int p1, .int (p1 + p2), .int 0, .ref a3_5, .ref a3_6, .ref a3_7, .ref a3_8, .ref a3_9, .ref a3_10, .ref a3_11, .ref a3_12, .int (-1), .int (-1), .ref a3_15, .ref a3_16]))]) (w1 := [(a3_10, .inl (cyI, 256, .inl r_1))]) hP hD [1] [0] rfl rfl (by decide) (by decide) hk1 hFc hP1 hD1
  clear hz1 hk1 hPc hDc hFc hP1 hK1 hD1 ht hvm t u
  generalize H1 = H at hP hS ⊢
  have hP : va_P (dC, dI) vwCl [(o3, .inr (3, [.ref o7, .ref o1, .int p1, .int (p1 + p2), .int 0, .ref a3_5, .ref a3_6, .ref a3_7, .ref a3_8, .ref a3_9, .ref a3_10, .ref a3_11, .ref a3_12, .int (-1), .int (-1), .ref a3_15, .ref a3_16])), (a3_10, .inl (cyI, 256, .inl r_1))] H := hP
  have hD : va_D A [(o3, .inr (3, [.ref o7, .ref o1, .int p1, .int (p1 + p2), .int 0, .ref a3_5, .ref a3_6, .ref a3_7, .ref a3_8, .ref a3_9, .ref a3_10, .ref a3_11, .ref a3_12, .int (-1), .int (-1), .ref a3_15, .ref a3_16])), (a3_10, .inl (cyI, 256, .inl r_1))] := hD
  obtain rfl := Option.some.inj hf
  have hP9 := hP.sub (ws' := [(o3, .inr (3, [.ref o7, .ref o1, .int p1, .int (p1 + p2), .int 0, .ref a3_5, .ref a3_6, .ref a3_7, .ref a3_8, .ref a3_9, .ref a3_10, .ref a3_11, .ref a3_12, .int (-1), .int (-1), .ref a3_15, .ref a3_16])), (a3_10, .inl (cyI, 256, .inl r_1))]) [0, 1] rfl
  have hD9 := hD.sub (ws' := [(o3, .inr (3, [.ref o7, .ref o1, .int p1, .int (p1 + p2), .int 0, .ref a3_5, .ref a3_6, .ref a3_7, .ref a3_8, .ref a3_9, .ref a3_10, .ref a3_11, .ref a3_12, .int (-1), .int (-1), .ref a3_15, .ref a3_16])), (a3_10, .inl (cyI, 256, .inl r_1))]) [0, 1] (by decide) rfl
  exact W.vret hx hb hr (fun t ht hW => ⟨⟨(), rfl, trivial, by rw [ht]; exact hP9, va_K.moved hW.alike hK, hD9⟩, hS.F ht⟩) hS.2.2 dX3_clear_35

def f_X3_find_L (v3_4 : Int32) (g3_6 : Nat → Int32) (n3_6 : Nat) (g3_7 : Nat → Int32) (n3_7 : Nat) (g3_10 : Nat → Int32) (g3_11 : Nat → Int32) (n3_11 : Nat) (l1 : Int32) (l2 : Int32) (z : Nat × Int32 × Int32) : Option (Int32) := match z with
  | (q, l3, l4) => if q = 0 then if v3_4 ≤ l4 then some (-1) else if l3 = (-1 : Int32) then some (-1) else if x_gd l3 n3_6 = true then if (g3_6 (Int32.toNatClampNeg l3)) = l1 then if x_gd l3 n3_7 = true then if (g3_7 (Int32.toNatClampNeg l3)) = l2 then some l3 else if x_gd l3 n3_11 = true then (f_X3_find_L v3_4 g3_6 n3_6 g3_7 n3_7 g3_10 g3_11 n3_11 l1 l2 (0, g3_11 (Int32.toNatClampNeg l3), l4 + 1)) else none else none else if x_gd l3 n3_11 = true then (f_X3_find_L v3_4 g3_6 n3_6 g3_7 n3_7 g3_10 g3_11 n3_11 l1 l2 (0, g3_11 (Int32.toNatClampNeg l3), l4 + 1)) else none else none else none
partial_fixpoint
def f_X3_find (v3_4 : Int32) (g3_6 : Nat → Int32) (n3_6 : Nat) (g3_7 : Nat → Int32) (n3_7 : Nat) (g3_10 : Nat → Int32) (g3_11 : Nat → Int32) (n3_11 : Nat) (p1 : Int32) (p2 : Int32) : Option (Int32) := (f_X3_headOf p1 p2) >>= (fun r_9 => if x_gd r_9 256 = true then (f_X3_find_L v3_4 g3_6 n3_6 g3_7 n3_7 g3_10 g3_11 n3_11 p1 p2 (0, g3_10 (Int32.toNatClampNeg r_9), 0)) else none)
theorem i_X3_find_X3 : ∀ w ∈ wsX30, w ∈ wsX3_find := by decide +kernel
set_option maxHeartbeats 4000000 in
set_option maxRecDepth 100000 in
theorem c_X3_find (l : Launch) (dC : Nat → ClassId) (dI : Nat → Nat → Nat) (cyI cyZ cyJ : ClassId) (sz : Nat) (o3 : Nat) (o7 : Nat) (o1 : Nat) (v3_2 : Int32) (v3_3 : Int32) (v3_4 : Int32) (a3_5 : Nat) (a3_6 : Nat) (a3_7 : Nat) (a3_8 : Nat) (a3_9 : Nat) (a3_10 : Nat) (a3_11 : Nat) (a3_12 : Nat) (v3_13 : Int32) (v3_14 : Int32) (a3_15 : Nat) (a3_16 : Nat) (g3_6 : Nat → Int32) (n3_6 : Nat) (g3_7 : Nat → Int32) (n3_7 : Nat) (g3_10 : Nat → Int32) (g3_11 : Nat → Int32) (n3_11 : Nat) (p1 : Int32) (p2 : Int32) (R : Int32) (hf : f_X3_find v3_4 g3_6 n3_6 g3_7 n3_7 g3_10 g3_11 n3_11 p1 p2 = some R) : Met l yX3_find wsX3_find ({ frames := 1, cells := 0, slots := 0, locals := 21 }) (va_Pc [.ref o3, .int p1, .int p2] (x_Pre (dC, dI) (x_T cyI cyZ cyJ) [(o3, .inr (3, [.ref o7, .ref o1, .int v3_2, .int v3_3, .int v3_4, .ref a3_5, .ref a3_6, .ref a3_7, .ref a3_8, .ref a3_9, .ref a3_10, .ref a3_11, .ref a3_12, .int v3_13, .int v3_14, .ref a3_15, .ref a3_16])), (a3_6, .inl (cyI, n3_6, .inl g3_6)), (a3_7, .inl (cyI, n3_7, .inl g3_7)), (a3_10, .inl (cyI, 256, .inl g3_10)), (a3_11, .inl (cyI, n3_11, .inl g3_11))] sz)) (va_Qi (fun (r : Int32) (_ : Unit) => r = R) (fun _ _ => True) (x_new sz)) 0 0 (x_new sz) := by
  refine Met.ofW (cc := cX3_find) (maxL := 5) (ret := (some .int)) (by decide) rfl ?_
  intro p e s m args below meth c s₁ B hml hv
  obtain ⟨rfl, hsz, hP, hK, hN⟩ := hv
  have hx := B.exec
  have hb := B.bytes
  have hr := B.returns
  have hts := atoms_spec (ws := wsX3_find) B.pre
  have hown : s.vm.findClass RX3 = some m.cls := findClass_of_methodNamed B.named
  have k_1 := hts (.fieldLink RX3 69 "FlowJudge$Frames" "count" "I") (by decide +kernel)
  have k_2 := hts (.fieldLink RX3 15 "FlowJudge$Frames" "targets" "[I") (by decide +kernel)
  have k_3 := hts (.fieldLink RX3 30 "FlowJudge$Frames" "nextOfHead" "[I") (by decide +kernel)
  have k_4 := hts (.fieldLink RX3 18 "FlowJudge$Frames" "ways" "[I") (by decide +kernel)
  have k_5 := hts (.fieldLink RX3 27 "FlowJudge$Frames" "heads" "[I") (by decide +kernel)
  subst hsz
  have hA : ∀ q : Nat, s.heap.size ≤ q → x_new s.heap.size q := fun _ h => h
  have hS : va_S (x_new s.heap.size) s.heap s.heap [] := va_S.rf
  have hP : va_P (dC, dI) vwCl [(o3, .inr (3, [.ref o7, .ref o1, .int v3_2, .int v3_3, .int v3_4, .ref a3_5, .ref a3_6, .ref a3_7, .ref a3_8, .ref a3_9, .ref a3_10, .ref a3_11, .ref a3_12, .int v3_13, .int v3_14, .ref a3_15, .ref a3_16])), (a3_6, .inl (cyI, n3_6, .inl g3_6)), (a3_7, .inl (cyI, n3_7, .inl g3_7)), (a3_10, .inl (cyI, 256, .inl g3_10)), (a3_11, .inl (cyI, n3_11, .inl g3_11))] s.heap := hP
  have hl := lv_entry ([.ref o3, .int p1, .int p2]) (n := 5) (Nat.le_of_ble_eq_true rfl)
  rw [lg_entry_eq]
  generalize (lg_sl ([.ref o3, .int p1, .int p2]) ++ List.replicate (5 - (lg_sl ([.ref o3, .int p1, .int p2])).length) Slot.unset).toArray = ls at hl ⊢
  have hl : lv_has ls 5 [(0, .ref o3), (1, .int p1), (2, .int p2)] := hl
  obtain ⟨H, hH⟩ : ∃ z, z = s.heap := ⟨_, rfl⟩
  refine x_here hH ?_
  have hP : va_P (dC, dI) vwCl [(o3, .inr (3, [.ref o7, .ref o1, .int v3_2, .int v3_3, .int v3_4, .ref a3_5, .ref a3_6, .ref a3_7, .ref a3_8, .ref a3_9, .ref a3_10, .ref a3_11, .ref a3_12, .int v3_13, .int v3_14, .ref a3_15, .ref a3_16])), (a3_6, .inl (cyI, n3_6, .inl g3_6)), (a3_7, .inl (cyI, n3_7, .inl g3_7)), (a3_10, .inl (cyI, 256, .inl g3_10)), (a3_11, .inl (cyI, n3_11, .inl g3_11))] H := by rw [hH]; exact hP
  have hS : va_S (x_new s.heap.size) s.heap H [] := by rw [hH]; exact va_S.rf
  clear hH
  obtain ⟨locs, hlo⟩ : ∃ z : List Loc, z = [] := ⟨_, rfl⟩
  refine x_herl hlo ?_
  have hS : va_S (x_new s.heap.size) s.heap H locs := by rw [hlo]; exact hS
  clear hlo
  unfold f_X3_find at hf
  refine x_wn (fun WW hWW => ?_)
  have J := fun (l1 : Int32) (l2 : Int32) => f_X3_find_L.partial_correctness v3_4 g3_6 n3_6 g3_7 n3_7 g3_10 g3_11 n3_11 l1 l2 (fun (z : Nat × Int32 × Int32) (r : Int32) => r = R → ∀ (q : Nat) (l3 : Int32) (l4 : Int32), z = (q, l3, l4) → ((q = 0 → ∀ (H : Heap) (locs : List Loc) (ls : Array Slot), va_P (dC, dI) vwCl [(o3, .inr (3, [.ref o7, .ref o1, .int v3_2, .int v3_3, .int v3_4, .ref a3_5, .ref a3_6, .ref a3_7, .ref a3_8, .ref a3_9, .ref a3_10, .ref a3_11, .ref a3_12, .int v3_13, .int v3_14, .ref a3_15, .ref a3_16])), (a3_6, .inl (cyI, n3_6, .inl g3_6)), (a3_7, .inl (cyI, n3_7, .inl g3_7)), (a3_10, .inl (cyI, 256, .inl g3_10)), (a3_11, .inl (cyI, n3_11, .inl g3_11))] H → va_S (x_new s.heap.size) s.heap H locs → lv_has ls 5 [(0, .ref o3), (1, .int l1), (2, .int l2), (3, .int l3), (4, .int l4)] → WW H locs 0 0 (F0 m 14 ls [])))) (by
    intro F ih z r hf hr q l3 l4 hz
    subst hz
    obtain rfl := hr
    · intro hq H locs ls hP hS hl
      subst hq
      refine (hWW _ _ _ _ _).mp ?_
      replace hf := x_ip rfl hf
      refine lv_iload hx hb dX3_find_14 (lv_at hl 4 rfl) ?_
      refine lv_aload_n hx hb dX3_find_16 rfl (lv_at hl 0 rfl) ?_
      refine va_get (D := (dC, dI)) (ci := 3) (v := .int v3_4) (C := RX3) (T := TX3) (N := 17) hx hb hts i_X3_find_X3 hown hK hP 0 rfl rfl 4 (by decide) k_1 (fun _ h9 => h9) rfl dX3_find_17 ?_
      refine lv_icmp_ge (tgt := 63) hx hb dX3_find_20 (by decide) (fun c_1 => ?_) (fun c_1 => ?_)
      · replace hf := x_ip c_1 hf
        refine lv_iconst (v := (-1)) hx hb dX3_find_63 (by decide) ?_
        obtain rfl := Option.some.inj hf
        exact W.iret hx hb hr (fun t ht hW => ⟨⟨_, (), rfl, rfl, trivial⟩, hS.F ht⟩) hS.2.2 dX3_find_64
      · replace hf := x_in c_1 hf
        refine lv_iload_n hx hb dX3_find_23 rfl (lv_at hl 3 rfl) ?_
        refine lv_iconst (v := (-1)) hx hb dX3_find_24 (by decide) ?_
        refine lv_icmp_eq (tgt := 63) hx hb dX3_find_25 (by decide) (fun c_2 => ?_) (fun c_2 => ?_)
        · replace hf := x_ip c_2 hf
          refine lv_iconst (v := (-1)) hx hb dX3_find_63 (by decide) ?_
          obtain rfl := Option.some.inj hf
          exact W.iret hx hb hr (fun t ht hW => ⟨⟨_, (), rfl, rfl, trivial⟩, hS.F ht⟩) hS.2.2 dX3_find_64
        · replace hf := x_in c_2 hf
          refine lv_aload_n hx hb dX3_find_28 rfl (lv_at hl 0 rfl) ?_
          refine va_get (D := (dC, dI)) (ci := 3) (v := .ref a3_6) (C := RX3) (T := TX3) (N := 17) hx hb hts i_X3_find_X3 hown hK hP 0 rfl rfl 6 (by decide) k_2 (fun _ h9 => h9) rfl dX3_find_29 ?_
          refine lv_iload_n hx hb dX3_find_32 rfl (lv_at hl 3 rfl) ?_
          obtain ⟨g_3, hf⟩ := x_gu hf
          refine va_iald hx hb hK hP 1 0 rfl rfl (x_gdin g_3) dX3_find_33 ?_
          refine lv_iload_n hx hb dX3_find_34 rfl (lv_at hl 1 rfl) ?_
          refine lv_icmp_ne (tgt := 50) hx hb dX3_find_35 (by decide) (fun c_4 => ?_) (fun c_4 => ?_)
          · replace hf := x_in c_4 hf
            refine lv_aload_n hx hb dX3_find_50 rfl (lv_at hl 0 rfl) ?_
            refine va_get (D := (dC, dI)) (ci := 3) (v := .ref a3_11) (C := RX3) (T := TX3) (N := 17) hx hb hts i_X3_find_X3 hown hK hP 0 rfl rfl 11 (by decide) k_3 (fun _ h9 => h9) rfl dX3_find_51 ?_
            refine lv_iload_n hx hb dX3_find_54 rfl (lv_at hl 3 rfl) ?_
            obtain ⟨g_5, hf⟩ := x_gu hf
            refine va_iald hx hb hK hP 4 0 rfl rfl (x_gdin g_5) dX3_find_55 ?_
            refine lv_istore_n (lv' := [(3, .int (g3_11 (Int32.toNatClampNeg l3))), (0, .ref o3), (1, .int l1), (2, .int l2), (4, .int l4)]) hx hb dX3_find_56 rfl hl (by decide) rfl (fun ls hl => ?_)
            refine lv_iinc (v := (l4 + 1)) (lv' := [(4, .int (l4 + 1)), (3, .int (g3_11 (Int32.toNatClampNeg l3))), (0, .ref o3), (1, .int l1), (2, .int l2)]) hx hb dX3_find_57 hl (k := 4) rfl rfl (by decide) rfl (fun ls hl => ?_)
            refine lv_goto (tgt := 14) hx hb dX3_find_60 (by decide) ?_
            exact (hWW _ _ _ _ _).mpr ((ih (0, g3_11 (Int32.toNatClampNeg l3), l4 + 1) _ hf rfl _ _ _ rfl) rfl H locs ls hP hS (lv_sub hl [2, 3, 4, 1, 0] rfl))
          · replace hf := x_ip c_4 hf
            refine lv_aload_n hx hb dX3_find_38 rfl (lv_at hl 0 rfl) ?_
            refine va_get (D := (dC, dI)) (ci := 3) (v := .ref a3_7) (C := RX3) (T := TX3) (N := 17) hx hb hts i_X3_find_X3 hown hK hP 0 rfl rfl 7 (by decide) k_4 (fun _ h9 => h9) rfl dX3_find_39 ?_
            refine lv_iload_n hx hb dX3_find_42 rfl (lv_at hl 3 rfl) ?_
            obtain ⟨g_6, hf⟩ := x_gu hf
            refine va_iald hx hb hK hP 2 0 rfl rfl (x_gdin g_6) dX3_find_43 ?_
            refine lv_iload_n hx hb dX3_find_44 rfl (lv_at hl 2 rfl) ?_
            refine lv_icmp_ne (tgt := 50) hx hb dX3_find_45 (by decide) (fun c_7 => ?_) (fun c_7 => ?_)
            · replace hf := x_in c_7 hf
              refine lv_aload_n hx hb dX3_find_50 rfl (lv_at hl 0 rfl) ?_
              refine va_get (D := (dC, dI)) (ci := 3) (v := .ref a3_11) (C := RX3) (T := TX3) (N := 17) hx hb hts i_X3_find_X3 hown hK hP 0 rfl rfl 11 (by decide) k_3 (fun _ h9 => h9) rfl dX3_find_51 ?_
              refine lv_iload_n hx hb dX3_find_54 rfl (lv_at hl 3 rfl) ?_
              obtain ⟨g_8, hf⟩ := x_gu hf
              refine va_iald hx hb hK hP 4 0 rfl rfl (x_gdin g_8) dX3_find_55 ?_
              refine lv_istore_n (lv' := [(3, .int (g3_11 (Int32.toNatClampNeg l3))), (0, .ref o3), (1, .int l1), (2, .int l2), (4, .int l4)]) hx hb dX3_find_56 rfl hl (by decide) rfl (fun ls hl => ?_)
              refine lv_iinc (v := (l4 + 1)) (lv' := [(4, .int (l4 + 1)), (3, .int (g3_11 (Int32.toNatClampNeg l3))), (0, .ref o3), (1, .int l1), (2, .int l2)]) hx hb dX3_find_57 hl (k := 4) rfl rfl (by decide) rfl (fun ls hl => ?_)
              refine lv_goto (tgt := 14) hx hb dX3_find_60 (by decide) ?_
              exact (hWW _ _ _ _ _).mpr ((ih (0, g3_11 (Int32.toNatClampNeg l3), l4 + 1) _ hf rfl _ _ _ rfl) rfl H locs ls hP hS (lv_sub hl [2, 3, 4, 1, 0] rfl))
            · replace hf := x_ip c_7 hf
              refine lv_iload_n hx hb dX3_find_48 rfl (lv_at hl 3 rfl) ?_
              obtain rfl := Option.some.inj hf
              exact W.iret hx hb hr (fun t ht hW => ⟨⟨_, (), rfl, rfl, trivial⟩, hS.F ht⟩) hS.2.2 dX3_find_49)
  refine lv_aload_n hx hb dX3_find_0 rfl (lv_at hl 0 rfl) ?_
  refine va_get (D := (dC, dI)) (ci := 3) (v := .ref a3_10) (C := RX3) (T := TX3) (N := 17) hx hb hts i_X3_find_X3 hown hK hP 0 rfl rfl 10 (by decide) k_5 (fun _ h9 => h9) rfl dX3_find_1 ?_
  refine lv_iload_n hx hb dX3_find_4 rfl (lv_at hl 1 rfl) ?_
  refine lv_iload_n hx hb dX3_find_5 rfl (lv_at hl 2 rfl) ?_
  obtain ⟨r_9, h_9, hf⟩ := x_bi hf
  have hPc := hP.sub (ws' := []) [] rfl
  refine va_calli (va_runS (As := [.int p1, .int p2]) (rest := [.ref a3_10]) ⟨hx, hb, hml, hown, hts⟩ (c_X3_headOf l dC dI cyI cyZ cyJ H.size p1 p2 r_9 h_9) (va_cwS 2 hts gX3_find_X3_headOf rfl rfl rfl (by decide +kernel) ⟨Nat.le_of_ble_eq_true rfl, Nat.le_of_ble_eq_true rfl⟩) (x_pS hN hK hPc) rfl rfl hl.1 rfl (lv_room (Nat.le_of_ble_eq_true rfl)) dX3_find_6 ⟨Nat.le_of_ble_eq_true rfl, Nat.le_of_ble_eq_true rfl⟩) hS x_nA (x_nf hA hS) (fun q_9 u t H1 locs ht hvm hw hB hz1 hk1 hS => ?_)
  have hP := x_kp hP hk1
  clear ht hvm hB hz1 hk1 t u hPc
  generalize H1 = H at hP hS ⊢
  obtain rfl := hw.symm
  obtain ⟨g_10, hf⟩ := x_gu hf
  refine va_iald hx hb hK hP 3 0 rfl rfl (x_gdin g_10) dX3_find_9 ?_
  refine lv_istore_n (lv' := [(3, .int (g3_10 (Int32.toNatClampNeg r_9))), (0, .ref o3), (1, .int p1), (2, .int p2)]) hx hb dX3_find_10 rfl hl (by decide) rfl (fun ls hl => ?_)
  refine lv_iconst (v := 0) hx hb dX3_find_11 (by decide) ?_
  refine lv_istore (lv' := [(4, .int 0), (3, .int (g3_10 (Int32.toNatClampNeg r_9))), (0, .ref o3), (1, .int p1), (2, .int p2)]) hx hb dX3_find_12 hl (by decide) rfl (fun ls hl => ?_)
  exact (hWW _ _ _ _ _).mpr ((J p1 p2 (0, g3_10 (Int32.toNatClampNeg r_9), 0) _ hf rfl _ _ _ rfl) rfl H locs ls hP hS (lv_sub hl [2, 3, 4, 1, 0] rfl))

def f_X3_isFull (v3_3 : Int32) (v3_4 : Int32) : Option (Int32) := if ((v3_4 + (1 : Int32)) * (v3_3 + (1 : Int32))) ≤ (20000 : Int32) then some 0 else some 1
theorem i_X3_isFull_X3 : ∀ w ∈ wsX30, w ∈ wsX3_isFull := by decide +kernel
set_option maxHeartbeats 4000000 in
set_option maxRecDepth 100000 in
theorem c_X3_isFull (l : Launch) (dC : Nat → ClassId) (dI : Nat → Nat → Nat) (cyI cyZ cyJ : ClassId) (sz : Nat) (o3 : Nat) (o7 : Nat) (o1 : Nat) (v3_2 : Int32) (v3_3 : Int32) (v3_4 : Int32) (a3_5 : Nat) (a3_6 : Nat) (a3_7 : Nat) (a3_8 : Nat) (a3_9 : Nat) (a3_10 : Nat) (a3_11 : Nat) (a3_12 : Nat) (v3_13 : Int32) (v3_14 : Int32) (a3_15 : Nat) (a3_16 : Nat) (R : Int32) (hf : f_X3_isFull v3_3 v3_4 = some R) : Met l yX3_isFull wsX3_isFull ({ frames := 0, cells := 0, slots := 0, locals := 0 }) (va_Pc [.ref o3] (x_Pre (dC, dI) (x_T cyI cyZ cyJ) [(o3, .inr (3, [.ref o7, .ref o1, .int v3_2, .int v3_3, .int v3_4, .ref a3_5, .ref a3_6, .ref a3_7, .ref a3_8, .ref a3_9, .ref a3_10, .ref a3_11, .ref a3_12, .int v3_13, .int v3_14, .ref a3_15, .ref a3_16]))] sz)) (va_Qi (fun (r : Int32) (_ : Unit) => r = R ∧ x_nb r) (fun _ _ => True) (x_new sz)) 0 0 (x_new sz) := by
  refine Met.ofW (cc := cX3_isFull) (maxL := 1) (ret := (some .boolean)) (by decide) rfl ?_
  intro p e s m args below meth c s₁ B hml hv
  obtain ⟨rfl, hsz, hP, hK, hN⟩ := hv
  have hx := B.exec
  have hb := B.bytes
  have hr := B.returns
  have hts := atoms_spec (ws := wsX3_isFull) B.pre
  have hown : s.vm.findClass RX3 = some m.cls := findClass_of_methodNamed B.named
  have k_1 := hts (.fieldLink RX3 69 "FlowJudge$Frames" "count" "I") (by decide +kernel)
  have k_2 := hts (.fieldLink RX3 66 "FlowJudge$Frames" "size" "I") (by decide +kernel)
  subst hsz
  have hA : ∀ q : Nat, s.heap.size ≤ q → x_new s.heap.size q := fun _ h => h
  have hS : va_S (x_new s.heap.size) s.heap s.heap [] := va_S.rf
  have hP : va_P (dC, dI) vwCl [(o3, .inr (3, [.ref o7, .ref o1, .int v3_2, .int v3_3, .int v3_4, .ref a3_5, .ref a3_6, .ref a3_7, .ref a3_8, .ref a3_9, .ref a3_10, .ref a3_11, .ref a3_12, .int v3_13, .int v3_14, .ref a3_15, .ref a3_16]))] s.heap := hP
  have hl := lv_entry ([.ref o3]) (n := 1) (Nat.le_of_ble_eq_true rfl)
  rw [lg_entry_eq]
  generalize (lg_sl ([.ref o3]) ++ List.replicate (1 - (lg_sl ([.ref o3])).length) Slot.unset).toArray = ls at hl ⊢
  have hl : lv_has ls 1 [(0, .ref o3)] := hl
  obtain ⟨H, hH⟩ : ∃ z, z = s.heap := ⟨_, rfl⟩
  refine x_here hH ?_
  have hP : va_P (dC, dI) vwCl [(o3, .inr (3, [.ref o7, .ref o1, .int v3_2, .int v3_3, .int v3_4, .ref a3_5, .ref a3_6, .ref a3_7, .ref a3_8, .ref a3_9, .ref a3_10, .ref a3_11, .ref a3_12, .int v3_13, .int v3_14, .ref a3_15, .ref a3_16]))] H := by rw [hH]; exact hP
  have hS : va_S (x_new s.heap.size) s.heap H [] := by rw [hH]; exact va_S.rf
  clear hH
  obtain ⟨locs, hlo⟩ : ∃ z : List Loc, z = [] := ⟨_, rfl⟩
  refine x_herl hlo ?_
  have hS : va_S (x_new s.heap.size) s.heap H locs := by rw [hlo]; exact hS
  clear hlo
  unfold f_X3_isFull at hf
  refine lv_aload_n hx hb dX3_isFull_0 rfl (lv_at hl 0 rfl) ?_
  refine va_get (D := (dC, dI)) (ci := 3) (v := .int v3_4) (C := RX3) (T := TX3) (N := 17) hx hb hts i_X3_isFull_X3 hown hK hP 0 rfl rfl 4 (by decide) k_1 (fun _ h9 => h9) rfl dX3_isFull_1 ?_
  refine lv_iconst (v := 1) hx hb dX3_isFull_4 (by decide) ?_
  refine lv_iadd hx hb dX3_isFull_5 ?_
  refine lv_aload_n hx hb dX3_isFull_6 rfl (lv_at hl 0 rfl) ?_
  refine va_get (D := (dC, dI)) (ci := 3) (v := .int v3_3) (C := RX3) (T := TX3) (N := 17) hx hb hts i_X3_isFull_X3 hown hK hP 0 rfl rfl 3 (by decide) k_2 (fun _ h9 => h9) rfl dX3_isFull_7 ?_
  refine lv_iconst (v := 1) hx hb dX3_isFull_10 (by decide) ?_
  refine lv_iadd hx hb dX3_isFull_11 ?_
  refine lv_imul hx hb dX3_isFull_12 ?_
  refine lv_sipush (v := 20000) hx hb dX3_isFull_13 (by decide) ?_
  refine lv_icmp_le (tgt := 23) hx hb dX3_isFull_16 (by decide) (fun c_1 => ?_) (fun c_1 => ?_)
  · replace hf := x_ip c_1 hf
    refine lv_iconst (v := 0) hx hb dX3_isFull_23 (by decide) ?_
    obtain rfl := Option.some.inj hf
    exact W.zret (ty := .boolean) hx hb hr rfl (fun t ht hW => ⟨⟨_, (), rfl, ⟨rfl, rfl⟩, trivial⟩, hS.F ht⟩) hS.2.2 dX3_isFull_24
  · replace hf := x_in c_1 hf
    refine lv_iconst (v := 1) hx hb dX3_isFull_19 (by decide) ?_
    refine lv_goto (tgt := 24) hx hb dX3_isFull_20 (by decide) ?_
    obtain rfl := Option.some.inj hf
    exact W.zret (ty := .boolean) hx hb hr rfl (fun t ht hW => ⟨⟨_, (), rfl, ⟨rfl, rfl⟩, trivial⟩, hS.F ht⟩) hS.2.2 dX3_isFull_24

def f_X3_isWideAt (g3_5 : Nat → Int32) (n3_5 : Nat) (p1 : Int32) : Option (Int32) := if p1 < (0 : Int32) then some 0 else if x_gd p1 n3_5 = true then if (g3_5 (Int32.toNatClampNeg p1)) = (3 : Int32) then some 1 else if x_gd p1 n3_5 = true then if (g3_5 (Int32.toNatClampNeg p1)) = (4 : Int32) then some 1 else some 0 else none else none
theorem i_X3_isWideAt_X3 : ∀ w ∈ wsX30, w ∈ wsX3_isWideAt := by decide +kernel
set_option maxHeartbeats 4000000 in
set_option maxRecDepth 100000 in
theorem c_X3_isWideAt (l : Launch) (dC : Nat → ClassId) (dI : Nat → Nat → Nat) (cyI cyZ cyJ : ClassId) (sz : Nat) (o3 : Nat) (o7 : Nat) (o1 : Nat) (v3_2 : Int32) (v3_3 : Int32) (v3_4 : Int32) (a3_5 : Nat) (a3_6 : Nat) (a3_7 : Nat) (a3_8 : Nat) (a3_9 : Nat) (a3_10 : Nat) (a3_11 : Nat) (a3_12 : Nat) (v3_13 : Int32) (v3_14 : Int32) (a3_15 : Nat) (a3_16 : Nat) (g3_5 : Nat → Int32) (n3_5 : Nat) (p1 : Int32) (R : Int32) (hf : f_X3_isWideAt g3_5 n3_5 p1 = some R) : Met l yX3_isWideAt wsX3_isWideAt ({ frames := 0, cells := 0, slots := 0, locals := 0 }) (va_Pc [.ref o3, .int p1] (x_Pre (dC, dI) (x_T cyI cyZ cyJ) [(o3, .inr (3, [.ref o7, .ref o1, .int v3_2, .int v3_3, .int v3_4, .ref a3_5, .ref a3_6, .ref a3_7, .ref a3_8, .ref a3_9, .ref a3_10, .ref a3_11, .ref a3_12, .int v3_13, .int v3_14, .ref a3_15, .ref a3_16])), (a3_5, .inl (cyI, n3_5, .inl g3_5))] sz)) (va_Qi (fun (r : Int32) (_ : Unit) => r = R ∧ x_nb r) (fun _ _ => True) (x_new sz)) 0 0 (x_new sz) := by
  refine Met.ofW (cc := cX3_isWideAt) (maxL := 2) (ret := (some .boolean)) (by decide) rfl ?_
  intro p e s m args below meth c s₁ B hml hv
  obtain ⟨rfl, hsz, hP, hK, hN⟩ := hv
  have hx := B.exec
  have hb := B.bytes
  have hr := B.returns
  have hts := atoms_spec (ws := wsX3_isWideAt) B.pre
  have hown : s.vm.findClass RX3 = some m.cls := findClass_of_methodNamed B.named
  have k_1 := hts (.fieldLink RX3 9 "FlowJudge$Frames" "words" "[I") (by decide +kernel)
  subst hsz
  have hA : ∀ q : Nat, s.heap.size ≤ q → x_new s.heap.size q := fun _ h => h
  have hS : va_S (x_new s.heap.size) s.heap s.heap [] := va_S.rf
  have hP : va_P (dC, dI) vwCl [(o3, .inr (3, [.ref o7, .ref o1, .int v3_2, .int v3_3, .int v3_4, .ref a3_5, .ref a3_6, .ref a3_7, .ref a3_8, .ref a3_9, .ref a3_10, .ref a3_11, .ref a3_12, .int v3_13, .int v3_14, .ref a3_15, .ref a3_16])), (a3_5, .inl (cyI, n3_5, .inl g3_5))] s.heap := hP
  have hl := lv_entry ([.ref o3, .int p1]) (n := 2) (Nat.le_of_ble_eq_true rfl)
  rw [lg_entry_eq]
  generalize (lg_sl ([.ref o3, .int p1]) ++ List.replicate (2 - (lg_sl ([.ref o3, .int p1])).length) Slot.unset).toArray = ls at hl ⊢
  have hl : lv_has ls 2 [(0, .ref o3), (1, .int p1)] := hl
  obtain ⟨H, hH⟩ : ∃ z, z = s.heap := ⟨_, rfl⟩
  refine x_here hH ?_
  have hP : va_P (dC, dI) vwCl [(o3, .inr (3, [.ref o7, .ref o1, .int v3_2, .int v3_3, .int v3_4, .ref a3_5, .ref a3_6, .ref a3_7, .ref a3_8, .ref a3_9, .ref a3_10, .ref a3_11, .ref a3_12, .int v3_13, .int v3_14, .ref a3_15, .ref a3_16])), (a3_5, .inl (cyI, n3_5, .inl g3_5))] H := by rw [hH]; exact hP
  have hS : va_S (x_new s.heap.size) s.heap H [] := by rw [hH]; exact va_S.rf
  clear hH
  obtain ⟨locs, hlo⟩ : ∃ z : List Loc, z = [] := ⟨_, rfl⟩
  refine x_herl hlo ?_
  have hS : va_S (x_new s.heap.size) s.heap H locs := by rw [hlo]; exact hS
  clear hlo
  unfold f_X3_isWideAt at hf
  refine lv_iload_n hx hb dX3_isWideAt_0 rfl (lv_at hl 1 rfl) ?_
  refine lv_if_lt (tgt := 28) hx hb dX3_isWideAt_1 (by decide) (fun c_1 => ?_) (fun c_1 => ?_)
  · replace hf := x_ip c_1 hf
    refine lv_iconst (v := 0) hx hb dX3_isWideAt_28 (by decide) ?_
    obtain rfl := Option.some.inj hf
    exact W.zret (ty := .boolean) hx hb hr rfl (fun t ht hW => ⟨⟨_, (), rfl, ⟨rfl, rfl⟩, trivial⟩, hS.F ht⟩) hS.2.2 dX3_isWideAt_29
  · replace hf := x_in c_1 hf
    refine lv_aload_n hx hb dX3_isWideAt_4 rfl (lv_at hl 0 rfl) ?_
    refine va_get (D := (dC, dI)) (ci := 3) (v := .ref a3_5) (C := RX3) (T := TX3) (N := 17) hx hb hts i_X3_isWideAt_X3 hown hK hP 0 rfl rfl 5 (by decide) k_1 (fun _ h9 => h9) rfl dX3_isWideAt_5 ?_
    refine lv_iload_n hx hb dX3_isWideAt_8 rfl (lv_at hl 1 rfl) ?_
    obtain ⟨g_2, hf⟩ := x_gu hf
    refine va_iald hx hb hK hP 1 0 rfl rfl (x_gdin g_2) dX3_isWideAt_9 ?_
    refine lv_iconst (v := 3) hx hb dX3_isWideAt_10 (by decide) ?_
    refine lv_icmp_eq (tgt := 24) hx hb dX3_isWideAt_11 (by decide) (fun c_3 => ?_) (fun c_3 => ?_)
    · replace hf := x_ip c_3 hf
      refine lv_iconst (v := 1) hx hb dX3_isWideAt_24 (by decide) ?_
      refine lv_goto (tgt := 29) hx hb dX3_isWideAt_25 (by decide) ?_
      obtain rfl := Option.some.inj hf
      exact W.zret (ty := .boolean) hx hb hr rfl (fun t ht hW => ⟨⟨_, (), rfl, ⟨rfl, rfl⟩, trivial⟩, hS.F ht⟩) hS.2.2 dX3_isWideAt_29
    · replace hf := x_in c_3 hf
      refine lv_aload_n hx hb dX3_isWideAt_14 rfl (lv_at hl 0 rfl) ?_
      refine va_get (D := (dC, dI)) (ci := 3) (v := .ref a3_5) (C := RX3) (T := TX3) (N := 17) hx hb hts i_X3_isWideAt_X3 hown hK hP 0 rfl rfl 5 (by decide) k_1 (fun _ h9 => h9) rfl dX3_isWideAt_15 ?_
      refine lv_iload_n hx hb dX3_isWideAt_18 rfl (lv_at hl 1 rfl) ?_
      obtain ⟨g_4, hf⟩ := x_gu hf
      refine va_iald hx hb hK hP 1 0 rfl rfl (x_gdin g_4) dX3_isWideAt_19 ?_
      refine lv_iconst (v := 4) hx hb dX3_isWideAt_20 (by decide) ?_
      refine lv_icmp_ne (tgt := 28) hx hb dX3_isWideAt_21 (by decide) (fun c_5 => ?_) (fun c_5 => ?_)
      · replace hf := x_in c_5 hf
        refine lv_iconst (v := 0) hx hb dX3_isWideAt_28 (by decide) ?_
        obtain rfl := Option.some.inj hf
        exact W.zret (ty := .boolean) hx hb hr rfl (fun t ht hW => ⟨⟨_, (), rfl, ⟨rfl, rfl⟩, trivial⟩, hS.F ht⟩) hS.2.2 dX3_isWideAt_29
      · replace hf := x_ip c_5 hf
        refine lv_iconst (v := 1) hx hb dX3_isWideAt_24 (by decide) ?_
        refine lv_goto (tgt := 29) hx hb dX3_isWideAt_25 (by decide) ?_
        obtain rfl := Option.some.inj hf
        exact W.zret (ty := .boolean) hx hb hr rfl (fun t ht hW => ⟨⟨_, (), rfl, ⟨rfl, rfl⟩, trivial⟩, hS.F ht⟩) hS.2.2 dX3_isWideAt_29

def f_X3_await (v3_13 : Int32) (v3_14 : Int32) (g3_12 : Nat → Int32) (n3_12 : Nat) (p1 : Int32) : Option (Int32 × Int32 × (Nat → Int32)) := if x_gd p1 n3_12 = true then if (g3_12 (Int32.toNatClampNeg p1)) = (-2 : Int32) then if x_gd p1 n3_12 = true then if v3_14 = (-1 : Int32) then some (p1, p1, upd g3_12 (Int32.toNatClampNeg p1) (-1)) else if x_gd v3_14 n3_12 = true then some (v3_13, p1, upd (upd g3_12 (Int32.toNatClampNeg p1) (-1)) (Int32.toNatClampNeg v3_14) p1) else none else none else some (v3_13, v3_14, g3_12) else none
theorem i_X3_await_X3 : ∀ w ∈ wsX30, w ∈ wsX3_await := by decide +kernel
set_option maxHeartbeats 4000000 in
set_option maxRecDepth 100000 in
theorem c_X3_await (l : Launch) (dC : Nat → ClassId) (dI : Nat → Nat → Nat) (cyI cyZ cyJ : ClassId) (sz : Nat) (o3 : Nat) (o7 : Nat) (o1 : Nat) (v3_2 : Int32) (v3_3 : Int32) (v3_4 : Int32) (a3_5 : Nat) (a3_6 : Nat) (a3_7 : Nat) (a3_8 : Nat) (a3_9 : Nat) (a3_10 : Nat) (a3_11 : Nat) (a3_12 : Nat) (v3_13 : Int32) (v3_14 : Int32) (a3_15 : Nat) (a3_16 : Nat) (g3_12 : Nat → Int32) (n3_12 : Nat) (p1 : Int32) (R : Int32 × Int32 × (Nat → Int32)) (hf : f_X3_await v3_13 v3_14 g3_12 n3_12 p1 = some R) : Met l yX3_await wsX3_await ({ frames := 0, cells := 0, slots := 0, locals := 0 }) (va_Pc [.ref o3, .int p1] (x_PreD (dC, dI) (x_T cyI cyZ cyJ) [(o3, .inr (3, [.ref o7, .ref o1, .int v3_2, .int v3_3, .int v3_4, .ref a3_5, .ref a3_6, .ref a3_7, .ref a3_8, .ref a3_9, .ref a3_10, .ref a3_11, .ref a3_12, .int v3_13, .int v3_14, .ref a3_15, .ref a3_16])), (a3_12, .inl (cyI, n3_12, .inl g3_12))] sz)) (va_Qv (fun _ : Unit => True) (fun (_ : Unit) (t : State) => va_P (dC, dI) vwCl [(o3, .inr (3, [.ref o7, .ref o1, .int v3_2, .int v3_3, .int v3_4, .ref a3_5, .ref a3_6, .ref a3_7, .ref a3_8, .ref a3_9, .ref a3_10, .ref a3_11, .ref a3_12, .int (R.1), .int (R.2.1), .ref a3_15, .ref a3_16])), (a3_12, .inl (cyI, n3_12, .inl R.2.2))] t.heap ∧ va_K (dC, dI) vwCl (x_T cyI cyZ cyJ) t ∧ va_D (va_A [(o3, .inr (3, [.ref o7, .ref o1, .int v3_2, .int v3_3, .int v3_4, .ref a3_5, .ref a3_6, .ref a3_7, .ref a3_8, .ref a3_9, .ref a3_10, .ref a3_11, .ref a3_12, .int v3_13, .int v3_14, .ref a3_15, .ref a3_16])), (a3_12, .inl (cyI, n3_12, .inl g3_12))] sz) [(o3, .inr (3, [.ref o7, .ref o1, .int v3_2, .int v3_3, .int v3_4, .ref a3_5, .ref a3_6, .ref a3_7, .ref a3_8, .ref a3_9, .ref a3_10, .ref a3_11, .ref a3_12, .int (R.1), .int (R.2.1), .ref a3_15, .ref a3_16])), (a3_12, .inl (cyI, n3_12, .inl R.2.2))]) (va_A [(o3, .inr (3, [.ref o7, .ref o1, .int v3_2, .int v3_3, .int v3_4, .ref a3_5, .ref a3_6, .ref a3_7, .ref a3_8, .ref a3_9, .ref a3_10, .ref a3_11, .ref a3_12, .int v3_13, .int v3_14, .ref a3_15, .ref a3_16])), (a3_12, .inl (cyI, n3_12, .inl g3_12))] sz)) 0 0 (va_A [(o3, .inr (3, [.ref o7, .ref o1, .int v3_2, .int v3_3, .int v3_4, .ref a3_5, .ref a3_6, .ref a3_7, .ref a3_8, .ref a3_9, .ref a3_10, .ref a3_11, .ref a3_12, .int v3_13, .int v3_14, .ref a3_15, .ref a3_16])), (a3_12, .inl (cyI, n3_12, .inl g3_12))] sz) := by
  refine Met.ofW (cc := cX3_await) (maxL := 2) (ret := none) (by decide) rfl ?_
  intro p e s m args below meth c s₁ B hml hv
  obtain ⟨rfl, ⟨hsz, hP, hK, hN⟩, hD0⟩ := hv
  have hx := B.exec
  have hb := B.bytes
  have hr := B.returns
  have hts := atoms_spec (ws := wsX3_await) B.pre
  have hown : s.vm.findClass RX3 = some m.cls := findClass_of_methodNamed B.named
  have k_1 := hts (.fieldLink RX3 33 "FlowJudge$Frames" "nextAwaited" "[I") (by decide +kernel)
  have k_2 := hts (.fieldLink RX3 40 "FlowJudge$Frames" "lastAwaited" "I") (by decide +kernel)
  have k_3 := hts (.fieldLink RX3 36 "FlowJudge$Frames" "firstAwaited" "I") (by decide +kernel)
  subst hsz
  have hD := hD0.self (sz := s.heap.size)
  generalize hAe : va_A [(o3, .inr (3, [.ref o7, .ref o1, .int v3_2, .int v3_3, .int v3_4, .ref a3_5, .ref a3_6, .ref a3_7, .ref a3_8, .ref a3_9, .ref a3_10, .ref a3_11, .ref a3_12, .int v3_13, .int v3_14, .ref a3_15, .ref a3_16])), (a3_12, .inl (cyI, n3_12, .inl g3_12))] s.heap.size = A at hD ⊢
  have hA : ∀ q : Nat, s.heap.size ≤ q → A q := fun q h => by rw [← hAe]; exact Or.inr h
  have hP : va_P (dC, dI) vwCl [(o3, .inr (3, [.ref o7, .ref o1, .int v3_2, .int v3_3, .int v3_4, .ref a3_5, .ref a3_6, .ref a3_7, .ref a3_8, .ref a3_9, .ref a3_10, .ref a3_11, .ref a3_12, .int v3_13, .int v3_14, .ref a3_15, .ref a3_16])), (a3_12, .inl (cyI, n3_12, .inl g3_12))] s.heap := hP
  have hl := lv_entry ([.ref o3, .int p1]) (n := 2) (Nat.le_of_ble_eq_true rfl)
  rw [lg_entry_eq]
  generalize (lg_sl ([.ref o3, .int p1]) ++ List.replicate (2 - (lg_sl ([.ref o3, .int p1])).length) Slot.unset).toArray = ls at hl ⊢
  have hl : lv_has ls 2 [(0, .ref o3), (1, .int p1)] := hl
  obtain ⟨H, hH⟩ : ∃ z, z = s.heap := ⟨_, rfl⟩
  refine x_here hH ?_
  have hP : va_P (dC, dI) vwCl [(o3, .inr (3, [.ref o7, .ref o1, .int v3_2, .int v3_3, .int v3_4, .ref a3_5, .ref a3_6, .ref a3_7, .ref a3_8, .ref a3_9, .ref a3_10, .ref a3_11, .ref a3_12, .int v3_13, .int v3_14, .ref a3_15, .ref a3_16])), (a3_12, .inl (cyI, n3_12, .inl g3_12))] H := by rw [hH]; exact hP
  have hS : va_S A s.heap H [] := by rw [hH]; exact va_S.rf
  clear hH
  obtain ⟨locs, hlo⟩ : ∃ z : List Loc, z = [] := ⟨_, rfl⟩
  refine x_herl hlo ?_
  have hS : va_S A s.heap H locs := by rw [hlo]; exact hS
  clear hlo
  unfold f_X3_await at hf
  refine lv_aload_n hx hb dX3_await_0 rfl (lv_at hl 0 rfl) ?_
  refine va_get (D := (dC, dI)) (ci := 3) (v := .ref a3_12) (C := RX3) (T := TX3) (N := 17) hx hb hts i_X3_await_X3 hown hK hP 0 rfl rfl 12 (by decide) k_1 (fun _ h9 => h9) rfl dX3_await_1 ?_
  refine lv_iload_n hx hb dX3_await_4 rfl (lv_at hl 1 rfl) ?_
  obtain ⟨g_1, hf⟩ := x_gu hf
  refine va_iald hx hb hK hP 1 0 rfl rfl (x_gdin g_1) dX3_await_5 ?_
  refine lv_bipush (v := (-2)) hx hb dX3_await_6 (by decide) ?_
  refine lv_icmp_eq (tgt := 12) hx hb dX3_await_8 (by decide) (fun c_2 => ?_) (fun c_2 => ?_)
  · replace hf := x_ip c_2 hf
    refine lv_aload_n hx hb dX3_await_12 rfl (lv_at hl 0 rfl) ?_
    refine va_get (D := (dC, dI)) (ci := 3) (v := .ref a3_12) (C := RX3) (T := TX3) (N := 17) hx hb hts i_X3_await_X3 hown hK hP 0 rfl rfl 12 (by decide) k_1 (fun _ h9 => h9) rfl dX3_await_13 ?_
    refine lv_iload_n hx hb dX3_await_16 rfl (lv_at hl 1 rfl) ?_
    refine lv_iconst (v := (-1)) hx hb dX3_await_17 (by decide) ?_
    obtain ⟨g_3, hf⟩ := x_gu hf
    refine va_iast hx hb hK hP hD hS 1 0 rfl rfl (x_gdin g_3) dX3_await_18 (fun H locs hP hD hS => ?_)
    have hP : va_P (dC, dI) vwCl [(o3, .inr (3, [.ref o7, .ref o1, .int v3_2, .int v3_3, .int v3_4, .ref a3_5, .ref a3_6, .ref a3_7, .ref a3_8, .ref a3_9, .ref a3_10, .ref a3_11, .ref a3_12, .int v3_13, .int v3_14, .ref a3_15, .ref a3_16])), (a3_12, .inl (cyI, n3_12, .inl (upd g3_12 (Int32.toNatClampNeg p1) (-1))))] H := hP
    have hD : va_D A [(o3, .inr (3, [.ref o7, .ref o1, .int v3_2, .int v3_3, .int v3_4, .ref a3_5, .ref a3_6, .ref a3_7, .ref a3_8, .ref a3_9, .ref a3_10, .ref a3_11, .ref a3_12, .int v3_13, .int v3_14, .ref a3_15, .ref a3_16])), (a3_12, .inl (cyI, n3_12, .inl (upd g3_12 (Int32.toNatClampNeg p1) (-1))))] := hD
    refine lv_aload_n hx hb dX3_await_19 rfl (lv_at hl 0 rfl) ?_
    refine va_get (D := (dC, dI)) (ci := 3) (v := .int v3_14) (C := RX3) (T := TX3) (N := 17) hx hb hts i_X3_await_X3 hown hK hP 0 rfl rfl 14 (by decide) k_2 (fun _ h9 => h9) rfl dX3_await_20 ?_
    refine lv_iconst (v := (-1)) hx hb dX3_await_23 (by decide) ?_
    refine lv_icmp_ne (tgt := 35) hx hb dX3_await_24 (by decide) (fun c_4 => ?_) (fun c_4 => ?_)
    · replace hf := x_in c_4 hf
      refine lv_aload_n hx hb dX3_await_35 rfl (lv_at hl 0 rfl) ?_
      refine va_get (D := (dC, dI)) (ci := 3) (v := .ref a3_12) (C := RX3) (T := TX3) (N := 17) hx hb hts i_X3_await_X3 hown hK hP 0 rfl rfl 12 (by decide) k_1 (fun _ h9 => h9) rfl dX3_await_36 ?_
      refine lv_aload_n hx hb dX3_await_39 rfl (lv_at hl 0 rfl) ?_
      refine va_get (D := (dC, dI)) (ci := 3) (v := .int v3_14) (C := RX3) (T := TX3) (N := 17) hx hb hts i_X3_await_X3 hown hK hP 0 rfl rfl 14 (by decide) k_2 (fun _ h9 => h9) rfl dX3_await_40 ?_
      refine lv_iload_n hx hb dX3_await_43 rfl (lv_at hl 1 rfl) ?_
      obtain ⟨g_5, hf⟩ := x_gu hf
      refine va_iast hx hb hK hP hD hS 1 0 rfl rfl (x_gdin g_5) dX3_await_44 (fun H locs hP hD hS => ?_)
      have hP : va_P (dC, dI) vwCl [(o3, .inr (3, [.ref o7, .ref o1, .int v3_2, .int v3_3, .int v3_4, .ref a3_5, .ref a3_6, .ref a3_7, .ref a3_8, .ref a3_9, .ref a3_10, .ref a3_11, .ref a3_12, .int v3_13, .int v3_14, .ref a3_15, .ref a3_16])), (a3_12, .inl (cyI, n3_12, .inl (upd (upd g3_12 (Int32.toNatClampNeg p1) (-1)) (Int32.toNatClampNeg v3_14) p1)))] H := hP
      have hD : va_D A [(o3, .inr (3, [.ref o7, .ref o1, .int v3_2, .int v3_3, .int v3_4, .ref a3_5, .ref a3_6, .ref a3_7, .ref a3_8, .ref a3_9, .ref a3_10, .ref a3_11, .ref a3_12, .int v3_13, .int v3_14, .ref a3_15, .ref a3_16])), (a3_12, .inl (cyI, n3_12, .inl (upd (upd g3_12 (Int32.toNatClampNeg p1) (-1)) (Int32.toNatClampNeg v3_14) p1)))] := hD
      refine lv_aload_n hx hb dX3_await_45 rfl (lv_at hl 0 rfl) ?_
      refine lv_iload_n hx hb dX3_await_46 rfl (lv_at hl 1 rfl) ?_
      refine va_put (D := (dC, dI)) (ci := 3) (v := .int p1) (ty := .int) (C := RX3) (T := TX3) (N := 17) hx hb hts i_X3_await_X3 tyX3 tyX3_ok nmX3 hown hK hP hD hS 0 rfl rfl 14 (by decide) k_2 (fun _ h9 => h9) rfl (by decide +kernel) rfl rfl (Nat.le_of_ble_eq_true rfl) dX3_await_47 (fun H locs hP hD hS => ?_)
      have hP : va_P (dC, dI) vwCl [(o3, .inr (3, [.ref o7, .ref o1, .int v3_2, .int v3_3, .int v3_4, .ref a3_5, .ref a3_6, .ref a3_7, .ref a3_8, .ref a3_9, .ref a3_10, .ref a3_11, .ref a3_12, .int v3_13, .int p1, .ref a3_15, .ref a3_16])), (a3_12, .inl (cyI, n3_12, .inl (upd (upd g3_12 (Int32.toNatClampNeg p1) (-1)) (Int32.toNatClampNeg v3_14) p1)))] H := hP
      have hD : va_D A [(o3, .inr (3, [.ref o7, .ref o1, .int v3_2, .int v3_3, .int v3_4, .ref a3_5, .ref a3_6, .ref a3_7, .ref a3_8, .ref a3_9, .ref a3_10, .ref a3_11, .ref a3_12, .int v3_13, .int p1, .ref a3_15, .ref a3_16])), (a3_12, .inl (cyI, n3_12, .inl (upd (upd g3_12 (Int32.toNatClampNeg p1) (-1)) (Int32.toNatClampNeg v3_14) p1)))] := hD
      obtain rfl := Option.some.inj hf
      have hP9 := hP.sub (ws' := [(o3, .inr (3, [.ref o7, .ref o1, .int v3_2, .int v3_3, .int v3_4, .ref a3_5, .ref a3_6, .ref a3_7, .ref a3_8, .ref a3_9, .ref a3_10, .ref a3_11, .ref a3_12, .int v3_13, .int p1, .ref a3_15, .ref a3_16])), (a3_12, .inl (cyI, n3_12, .inl (upd (upd g3_12 (Int32.toNatClampNeg p1) (-1)) (Int32.toNatClampNeg v3_14) p1)))]) [0, 1] rfl
      have hD9 := hD.sub (ws' := [(o3, .inr (3, [.ref o7, .ref o1, .int v3_2, .int v3_3, .int v3_4, .ref a3_5, .ref a3_6, .ref a3_7, .ref a3_8, .ref a3_9, .ref a3_10, .ref a3_11, .ref a3_12, .int v3_13, .int p1, .ref a3_15, .ref a3_16])), (a3_12, .inl (cyI, n3_12, .inl (upd (upd g3_12 (Int32.toNatClampNeg p1) (-1)) (Int32.toNatClampNeg v3_14) p1)))]) [0, 1] (by decide) rfl
      exact W.vret hx hb hr (fun t ht hW => ⟨⟨(), rfl, trivial, by rw [ht]; exact hP9, va_K.moved hW.alike hK, hD9⟩, hS.F ht⟩) hS.2.2 dX3_await_50
    · replace hf := x_ip c_4 hf
      refine lv_aload_n hx hb dX3_await_27 rfl (lv_at hl 0 rfl) ?_
      refine lv_iload_n hx hb dX3_await_28 rfl (lv_at hl 1 rfl) ?_
      refine va_put (D := (dC, dI)) (ci := 3) (v := .int p1) (ty := .int) (C := RX3) (T := TX3) (N := 17) hx hb hts i_X3_await_X3 tyX3 tyX3_ok nmX3 hown hK hP hD hS 0 rfl rfl 13 (by decide) k_3 (fun _ h9 => h9) rfl (by decide +kernel) rfl rfl (Nat.le_of_ble_eq_true rfl) dX3_await_29 (fun H locs hP hD hS => ?_)
      have hP : va_P (dC, dI) vwCl [(o3, .inr (3, [.ref o7, .ref o1, .int v3_2, .int v3_3, .int v3_4, .ref a3_5, .ref a3_6, .ref a3_7, .ref a3_8, .ref a3_9, .ref a3_10, .ref a3_11, .ref a3_12, .int p1, .int v3_14, .ref a3_15, .ref a3_16])), (a3_12, .inl (cyI, n3_12, .inl (upd g3_12 (Int32.toNatClampNeg p1) (-1))))] H := hP
      have hD : va_D A [(o3, .inr (3, [.ref o7, .ref o1, .int v3_2, .int v3_3, .int v3_4, .ref a3_5, .ref a3_6, .ref a3_7, .ref a3_8, .ref a3_9, .ref a3_10, .ref a3_11, .ref a3_12, .int p1, .int v3_14, .ref a3_15, .ref a3_16])), (a3_12, .inl (cyI, n3_12, .inl (upd g3_12 (Int32.toNatClampNeg p1) (-1))))] := hD
      refine lv_goto (tgt := 45) hx hb dX3_await_32 (by decide) ?_
      refine lv_aload_n hx hb dX3_await_45 rfl (lv_at hl 0 rfl) ?_
      refine lv_iload_n hx hb dX3_await_46 rfl (lv_at hl 1 rfl) ?_
      refine va_put (D := (dC, dI)) (ci := 3) (v := .int p1) (ty := .int) (C := RX3) (T := TX3) (N := 17) hx hb hts i_X3_await_X3 tyX3 tyX3_ok nmX3 hown hK hP hD hS 0 rfl rfl 14 (by decide) k_2 (fun _ h9 => h9) rfl (by decide +kernel) rfl rfl (Nat.le_of_ble_eq_true rfl) dX3_await_47 (fun H locs hP hD hS => ?_)
      have hP : va_P (dC, dI) vwCl [(o3, .inr (3, [.ref o7, .ref o1, .int v3_2, .int v3_3, .int v3_4, .ref a3_5, .ref a3_6, .ref a3_7, .ref a3_8, .ref a3_9, .ref a3_10, .ref a3_11, .ref a3_12, .int p1, .int p1, .ref a3_15, .ref a3_16])), (a3_12, .inl (cyI, n3_12, .inl (upd g3_12 (Int32.toNatClampNeg p1) (-1))))] H := hP
      have hD : va_D A [(o3, .inr (3, [.ref o7, .ref o1, .int v3_2, .int v3_3, .int v3_4, .ref a3_5, .ref a3_6, .ref a3_7, .ref a3_8, .ref a3_9, .ref a3_10, .ref a3_11, .ref a3_12, .int p1, .int p1, .ref a3_15, .ref a3_16])), (a3_12, .inl (cyI, n3_12, .inl (upd g3_12 (Int32.toNatClampNeg p1) (-1))))] := hD
      obtain rfl := Option.some.inj hf
      have hP9 := hP.sub (ws' := [(o3, .inr (3, [.ref o7, .ref o1, .int v3_2, .int v3_3, .int v3_4, .ref a3_5, .ref a3_6, .ref a3_7, .ref a3_8, .ref a3_9, .ref a3_10, .ref a3_11, .ref a3_12, .int p1, .int p1, .ref a3_15, .ref a3_16])), (a3_12, .inl (cyI, n3_12, .inl (upd g3_12 (Int32.toNatClampNeg p1) (-1))))]) [0, 1] rfl
      have hD9 := hD.sub (ws' := [(o3, .inr (3, [.ref o7, .ref o1, .int v3_2, .int v3_3, .int v3_4, .ref a3_5, .ref a3_6, .ref a3_7, .ref a3_8, .ref a3_9, .ref a3_10, .ref a3_11, .ref a3_12, .int p1, .int p1, .ref a3_15, .ref a3_16])), (a3_12, .inl (cyI, n3_12, .inl (upd g3_12 (Int32.toNatClampNeg p1) (-1))))]) [0, 1] (by decide) rfl
      exact W.vret hx hb hr (fun t ht hW => ⟨⟨(), rfl, trivial, by rw [ht]; exact hP9, va_K.moved hW.alike hK, hD9⟩, hS.F ht⟩) hS.2.2 dX3_await_50
  · replace hf := x_in c_2 hf
    obtain rfl := Option.some.inj hf
    have hP9 := hP.sub (ws' := [(o3, .inr (3, [.ref o7, .ref o1, .int v3_2, .int v3_3, .int v3_4, .ref a3_5, .ref a3_6, .ref a3_7, .ref a3_8, .ref a3_9, .ref a3_10, .ref a3_11, .ref a3_12, .int v3_13, .int v3_14, .ref a3_15, .ref a3_16])), (a3_12, .inl (cyI, n3_12, .inl g3_12))]) [0, 1] rfl
    have hD9 := hD.sub (ws' := [(o3, .inr (3, [.ref o7, .ref o1, .int v3_2, .int v3_3, .int v3_4, .ref a3_5, .ref a3_6, .ref a3_7, .ref a3_8, .ref a3_9, .ref a3_10, .ref a3_11, .ref a3_12, .int v3_13, .int v3_14, .ref a3_15, .ref a3_16])), (a3_12, .inl (cyI, n3_12, .inl g3_12))]) [0, 1] (by decide) rfl
    exact W.vret hx hb hr (fun t ht hW => ⟨⟨(), rfl, trivial, by rw [ht]; exact hP9, va_K.moved hW.alike hK, hD9⟩, hS.F ht⟩) hS.2.2 dX3_await_11

def f_X3_join_L (v7_2 : Int32) (g7_0 : Nat → Int32) (v3_2 : Int32) (v3_3 : Int32) (n3_5 : Nat) (g3_8 : Nat → Int32) (n3_8 : Nat) (n3_9 : Nat) (n3_12 : Nat) (v5_3 : Int32) (v5_5 : Int32) (g5_1 : Nat → Int32) (l1 : Int32) (l4 : Int32) (v3_13 : Int32) (v3_14 : Int32) (g3_9 : Nat → Int32) (g3_12 : Nat → Int32) (z : Nat × Int32 × Int32 × (Nat → Int32)) : Option (Int32 × Int32 × Int32 × (Nat → Int32) × (Nat → Int32) × (Nat → Int32)) := match z with
  | (q, l3, l5, g3_5) => if q = 0 then if v5_3 ≤ l5 then if l3 = (0 : Int32) then some (1, v3_13, v3_14, g3_5, g3_9, g3_12) else if x_gd l1 n3_9 = true then if (g3_9 (Int32.toNatClampNeg l1)) ≤ v5_5 then if x_gd l1 n3_9 = true then if x_gd l1 n3_9 = true then (f_X3_await v3_13 v3_14 g3_12 n3_12 l1) >>= (fun r_7 => some (1, r_7.1, r_7.2.1, g3_5, upd g3_9 (Int32.toNatClampNeg l1) (g3_9 (Int32.toNatClampNeg l1)), r_7.2.2)) else none else none else if x_gd l1 n3_9 = true then (f_X3_await v3_13 v3_14 g3_12 n3_12 l1) >>= (fun r_9 => some (1, r_9.1, r_9.2.1, g3_5, upd g3_9 (Int32.toNatClampNeg l1) v5_5, r_9.2.2)) else none else none else if x_gd (l4 + l5) n3_5 = true then if x_gd l5 400 = true then if (g3_5 (Int32.toNatClampNeg (l4 + l5))) = (g5_1 (Int32.toNatClampNeg l5)) then if (g3_5 (Int32.toNatClampNeg (l4 + l5))) = (7 : Int32) then if x_gd l5 400 = true then (f_X7_meet v7_2 g7_0 (g3_5 (Int32.toNatClampNeg (l4 + l5))) (g5_1 (Int32.toNatClampNeg l5))) >>= (fun r_51 => if r_51 = (7 : Int32) then (f_X3_isWideAt g3_5 n3_5 ((l4 + l5) - (1 : Int32))) >>= (fun r_65 => if r_65 = (0 : Int32) then if l5 < v3_2 then if l3 = (0 : Int32) then if (0 : Int32) = (g3_5 (Int32.toNatClampNeg (l4 + l5))) then if x_gd (l4 + l5) n3_5 = true then (f_X3_join_L v7_2 g7_0 v3_2 v3_3 n3_5 g3_8 n3_8 n3_9 n3_12 v5_3 v5_5 g5_1 l1 l4 v3_13 v3_14 g3_9 g3_12 (0, 0, l5 + 1, upd g3_5 (Int32.toNatClampNeg (l4 + l5)) 0)) else none else if x_gd (l4 + l5) n3_5 = true then (f_X3_join_L v7_2 g7_0 v3_2 v3_3 n3_5 g3_8 n3_8 n3_9 n3_12 v5_3 v5_5 g5_1 l1 l4 v3_13 v3_14 g3_9 g3_12 (0, 1, l5 + 1, upd g3_5 (Int32.toNatClampNeg (l4 + l5)) 0)) else none else if x_gd (l4 + l5) n3_5 = true then (f_X3_join_L v7_2 g7_0 v3_2 v3_3 n3_5 g3_8 n3_8 n3_9 n3_12 v5_3 v5_5 g5_1 l1 l4 v3_13 v3_14 g3_9 g3_12 (0, 1, l5 + 1, upd g3_5 (Int32.toNatClampNeg (l4 + l5)) 0)) else none else some (0, v3_13, v3_14, g3_5, g3_9, g3_12) else if r_51 = (0 : Int32) then if l5 < v3_2 then if l3 = (0 : Int32) then if r_51 = (g3_5 (Int32.toNatClampNeg (l4 + l5))) then if x_gd (l4 + l5) n3_5 = true then (f_X3_join_L v7_2 g7_0 v3_2 v3_3 n3_5 g3_8 n3_8 n3_9 n3_12 v5_3 v5_5 g5_1 l1 l4 v3_13 v3_14 g3_9 g3_12 (0, 0, l5 + 1, upd g3_5 (Int32.toNatClampNeg (l4 + l5)) r_51)) else none else if x_gd (l4 + l5) n3_5 = true then (f_X3_join_L v7_2 g7_0 v3_2 v3_3 n3_5 g3_8 n3_8 n3_9 n3_12 v5_3 v5_5 g5_1 l1 l4 v3_13 v3_14 g3_9 g3_12 (0, 1, l5 + 1, upd g3_5 (Int32.toNatClampNeg (l4 + l5)) r_51)) else none else if x_gd (l4 + l5) n3_5 = true then (f_X3_join_L v7_2 g7_0 v3_2 v3_3 n3_5 g3_8 n3_8 n3_9 n3_12 v5_3 v5_5 g5_1 l1 l4 v3_13 v3_14 g3_9 g3_12 (0, 1, l5 + 1, upd g3_5 (Int32.toNatClampNeg (l4 + l5)) r_51)) else none else some (0, v3_13, v3_14, g3_5, g3_9, g3_12) else if l3 = (0 : Int32) then if r_51 = (g3_5 (Int32.toNatClampNeg (l4 + l5))) then if x_gd (l4 + l5) n3_5 = true then (f_X3_join_L v7_2 g7_0 v3_2 v3_3 n3_5 g3_8 n3_8 n3_9 n3_12 v5_3 v5_5 g5_1 l1 l4 v3_13 v3_14 g3_9 g3_12 (0, 0, l5 + 1, upd g3_5 (Int32.toNatClampNeg (l4 + l5)) r_51)) else none else if x_gd (l4 + l5) n3_5 = true then (f_X3_join_L v7_2 g7_0 v3_2 v3_3 n3_5 g3_8 n3_8 n3_9 n3_12 v5_3 v5_5 g5_1 l1 l4 v3_13 v3_14 g3_9 g3_12 (0, 1, l5 + 1, upd g3_5 (Int32.toNatClampNeg (l4 + l5)) r_51)) else none else if x_gd (l4 + l5) n3_5 = true then (f_X3_join_L v7_2 g7_0 v3_2 v3_3 n3_5 g3_8 n3_8 n3_9 n3_12 v5_3 v5_5 g5_1 l1 l4 v3_13 v3_14 g3_9 g3_12 (0, 1, l5 + 1, upd g3_5 (Int32.toNatClampNeg (l4 + l5)) r_51)) else none) else if r_51 = (0 : Int32) then if l5 < v3_2 then if l3 = (0 : Int32) then if r_51 = (g3_5 (Int32.toNatClampNeg (l4 + l5))) then if x_gd (l4 + l5) n3_5 = true then (f_X3_join_L v7_2 g7_0 v3_2 v3_3 n3_5 g3_8 n3_8 n3_9 n3_12 v5_3 v5_5 g5_1 l1 l4 v3_13 v3_14 g3_9 g3_12 (0, 0, l5 + 1, upd g3_5 (Int32.toNatClampNeg (l4 + l5)) r_51)) else none else if x_gd (l4 + l5) n3_5 = true then (f_X3_join_L v7_2 g7_0 v3_2 v3_3 n3_5 g3_8 n3_8 n3_9 n3_12 v5_3 v5_5 g5_1 l1 l4 v3_13 v3_14 g3_9 g3_12 (0, 1, l5 + 1, upd g3_5 (Int32.toNatClampNeg (l4 + l5)) r_51)) else none else if x_gd (l4 + l5) n3_5 = true then (f_X3_join_L v7_2 g7_0 v3_2 v3_3 n3_5 g3_8 n3_8 n3_9 n3_12 v5_3 v5_5 g5_1 l1 l4 v3_13 v3_14 g3_9 g3_12 (0, 1, l5 + 1, upd g3_5 (Int32.toNatClampNeg (l4 + l5)) r_51)) else none else some (0, v3_13, v3_14, g3_5, g3_9, g3_12) else if l3 = (0 : Int32) then if r_51 = (g3_5 (Int32.toNatClampNeg (l4 + l5))) then if x_gd (l4 + l5) n3_5 = true then (f_X3_join_L v7_2 g7_0 v3_2 v3_3 n3_5 g3_8 n3_8 n3_9 n3_12 v5_3 v5_5 g5_1 l1 l4 v3_13 v3_14 g3_9 g3_12 (0, 0, l5 + 1, upd g3_5 (Int32.toNatClampNeg (l4 + l5)) r_51)) else none else if x_gd (l4 + l5) n3_5 = true then (f_X3_join_L v7_2 g7_0 v3_2 v3_3 n3_5 g3_8 n3_8 n3_9 n3_12 v5_3 v5_5 g5_1 l1 l4 v3_13 v3_14 g3_9 g3_12 (0, 1, l5 + 1, upd g3_5 (Int32.toNatClampNeg (l4 + l5)) r_51)) else none else if x_gd (l4 + l5) n3_5 = true then (f_X3_join_L v7_2 g7_0 v3_2 v3_3 n3_5 g3_8 n3_8 n3_9 n3_12 v5_3 v5_5 g5_1 l1 l4 v3_13 v3_14 g3_9 g3_12 (0, 1, l5 + 1, upd g3_5 (Int32.toNatClampNeg (l4 + l5)) r_51)) else none) else none else (f_X3_join_L v7_2 g7_0 v3_2 v3_3 n3_5 g3_8 n3_8 n3_9 n3_12 v5_3 v5_5 g5_1 l1 l4 v3_13 v3_14 g3_9 g3_12 (0, l3, l5 + 1, g3_5)) else if x_gd l5 400 = true then (f_X7_meet v7_2 g7_0 (g3_5 (Int32.toNatClampNeg (l4 + l5))) (g5_1 (Int32.toNatClampNeg l5))) >>= (fun r_14 => if r_14 = (7 : Int32) then (f_X3_isWideAt g3_5 n3_5 ((l4 + l5) - (1 : Int32))) >>= (fun r_28 => if r_28 = (0 : Int32) then if l5 < v3_2 then if l3 = (0 : Int32) then if (0 : Int32) = (g3_5 (Int32.toNatClampNeg (l4 + l5))) then if x_gd (l4 + l5) n3_5 = true then (f_X3_join_L v7_2 g7_0 v3_2 v3_3 n3_5 g3_8 n3_8 n3_9 n3_12 v5_3 v5_5 g5_1 l1 l4 v3_13 v3_14 g3_9 g3_12 (0, 0, l5 + 1, upd g3_5 (Int32.toNatClampNeg (l4 + l5)) 0)) else none else if x_gd (l4 + l5) n3_5 = true then (f_X3_join_L v7_2 g7_0 v3_2 v3_3 n3_5 g3_8 n3_8 n3_9 n3_12 v5_3 v5_5 g5_1 l1 l4 v3_13 v3_14 g3_9 g3_12 (0, 1, l5 + 1, upd g3_5 (Int32.toNatClampNeg (l4 + l5)) 0)) else none else if x_gd (l4 + l5) n3_5 = true then (f_X3_join_L v7_2 g7_0 v3_2 v3_3 n3_5 g3_8 n3_8 n3_9 n3_12 v5_3 v5_5 g5_1 l1 l4 v3_13 v3_14 g3_9 g3_12 (0, 1, l5 + 1, upd g3_5 (Int32.toNatClampNeg (l4 + l5)) 0)) else none else some (0, v3_13, v3_14, g3_5, g3_9, g3_12) else if r_14 = (0 : Int32) then if l5 < v3_2 then if l3 = (0 : Int32) then if r_14 = (g3_5 (Int32.toNatClampNeg (l4 + l5))) then if x_gd (l4 + l5) n3_5 = true then (f_X3_join_L v7_2 g7_0 v3_2 v3_3 n3_5 g3_8 n3_8 n3_9 n3_12 v5_3 v5_5 g5_1 l1 l4 v3_13 v3_14 g3_9 g3_12 (0, 0, l5 + 1, upd g3_5 (Int32.toNatClampNeg (l4 + l5)) r_14)) else none else if x_gd (l4 + l5) n3_5 = true then (f_X3_join_L v7_2 g7_0 v3_2 v3_3 n3_5 g3_8 n3_8 n3_9 n3_12 v5_3 v5_5 g5_1 l1 l4 v3_13 v3_14 g3_9 g3_12 (0, 1, l5 + 1, upd g3_5 (Int32.toNatClampNeg (l4 + l5)) r_14)) else none else if x_gd (l4 + l5) n3_5 = true then (f_X3_join_L v7_2 g7_0 v3_2 v3_3 n3_5 g3_8 n3_8 n3_9 n3_12 v5_3 v5_5 g5_1 l1 l4 v3_13 v3_14 g3_9 g3_12 (0, 1, l5 + 1, upd g3_5 (Int32.toNatClampNeg (l4 + l5)) r_14)) else none else some (0, v3_13, v3_14, g3_5, g3_9, g3_12) else if l3 = (0 : Int32) then if r_14 = (g3_5 (Int32.toNatClampNeg (l4 + l5))) then if x_gd (l4 + l5) n3_5 = true then (f_X3_join_L v7_2 g7_0 v3_2 v3_3 n3_5 g3_8 n3_8 n3_9 n3_12 v5_3 v5_5 g5_1 l1 l4 v3_13 v3_14 g3_9 g3_12 (0, 0, l5 + 1, upd g3_5 (Int32.toNatClampNeg (l4 + l5)) r_14)) else none else if x_gd (l4 + l5) n3_5 = true then (f_X3_join_L v7_2 g7_0 v3_2 v3_3 n3_5 g3_8 n3_8 n3_9 n3_12 v5_3 v5_5 g5_1 l1 l4 v3_13 v3_14 g3_9 g3_12 (0, 1, l5 + 1, upd g3_5 (Int32.toNatClampNeg (l4 + l5)) r_14)) else none else if x_gd (l4 + l5) n3_5 = true then (f_X3_join_L v7_2 g7_0 v3_2 v3_3 n3_5 g3_8 n3_8 n3_9 n3_12 v5_3 v5_5 g5_1 l1 l4 v3_13 v3_14 g3_9 g3_12 (0, 1, l5 + 1, upd g3_5 (Int32.toNatClampNeg (l4 + l5)) r_14)) else none) else if r_14 = (0 : Int32) then if l5 < v3_2 then if l3 = (0 : Int32) then if r_14 = (g3_5 (Int32.toNatClampNeg (l4 + l5))) then if x_gd (l4 + l5) n3_5 = true then (f_X3_join_L v7_2 g7_0 v3_2 v3_3 n3_5 g3_8 n3_8 n3_9 n3_12 v5_3 v5_5 g5_1 l1 l4 v3_13 v3_14 g3_9 g3_12 (0, 0, l5 + 1, upd g3_5 (Int32.toNatClampNeg (l4 + l5)) r_14)) else none else if x_gd (l4 + l5) n3_5 = true then (f_X3_join_L v7_2 g7_0 v3_2 v3_3 n3_5 g3_8 n3_8 n3_9 n3_12 v5_3 v5_5 g5_1 l1 l4 v3_13 v3_14 g3_9 g3_12 (0, 1, l5 + 1, upd g3_5 (Int32.toNatClampNeg (l4 + l5)) r_14)) else none else if x_gd (l4 + l5) n3_5 = true then (f_X3_join_L v7_2 g7_0 v3_2 v3_3 n3_5 g3_8 n3_8 n3_9 n3_12 v5_3 v5_5 g5_1 l1 l4 v3_13 v3_14 g3_9 g3_12 (0, 1, l5 + 1, upd g3_5 (Int32.toNatClampNeg (l4 + l5)) r_14)) else none else some (0, v3_13, v3_14, g3_5, g3_9, g3_12) else if l3 = (0 : Int32) then if r_14 = (g3_5 (Int32.toNatClampNeg (l4 + l5))) then if x_gd (l4 + l5) n3_5 = true then (f_X3_join_L v7_2 g7_0 v3_2 v3_3 n3_5 g3_8 n3_8 n3_9 n3_12 v5_3 v5_5 g5_1 l1 l4 v3_13 v3_14 g3_9 g3_12 (0, 0, l5 + 1, upd g3_5 (Int32.toNatClampNeg (l4 + l5)) r_14)) else none else if x_gd (l4 + l5) n3_5 = true then (f_X3_join_L v7_2 g7_0 v3_2 v3_3 n3_5 g3_8 n3_8 n3_9 n3_12 v5_3 v5_5 g5_1 l1 l4 v3_13 v3_14 g3_9 g3_12 (0, 1, l5 + 1, upd g3_5 (Int32.toNatClampNeg (l4 + l5)) r_14)) else none else if x_gd (l4 + l5) n3_5 = true then (f_X3_join_L v7_2 g7_0 v3_2 v3_3 n3_5 g3_8 n3_8 n3_9 n3_12 v5_3 v5_5 g5_1 l1 l4 v3_13 v3_14 g3_9 g3_12 (0, 1, l5 + 1, upd g3_5 (Int32.toNatClampNeg (l4 + l5)) r_14)) else none) else none else none else none else none
partial_fixpoint
def f_X3_join (v7_2 : Int32) (g7_0 : Nat → Int32) (v3_2 : Int32) (v3_3 : Int32) (v3_13 : Int32) (v3_14 : Int32) (g3_5 : Nat → Int32) (n3_5 : Nat) (g3_8 : Nat → Int32) (n3_8 : Nat) (g3_9 : Nat → Int32) (n3_9 : Nat) (g3_12 : Nat → Int32) (n3_12 : Nat) (v5_3 : Int32) (v5_5 : Int32) (g5_1 : Nat → Int32) (p1 : Int32) : Option (Int32 × Int32 × Int32 × (Nat → Int32) × (Nat → Int32) × (Nat → Int32)) := if x_gd p1 n3_8 = true then if (v5_3 - v3_2) = (g3_8 (Int32.toNatClampNeg p1)) then if x_gd p1 n3_9 = true then if (g3_9 (Int32.toNatClampNeg p1)) ≤ v5_5 then (f_X3_join_L v7_2 g7_0 v3_2 v3_3 n3_5 g3_8 n3_8 n3_9 n3_12 v5_3 v5_5 g5_1 p1 (p1 * v3_3) v3_13 v3_14 g3_9 g3_12 (0, 0, 0, g3_5)) else (f_X3_join_L v7_2 g7_0 v3_2 v3_3 n3_5 g3_8 n3_8 n3_9 n3_12 v5_3 v5_5 g5_1 p1 (p1 * v3_3) v3_13 v3_14 g3_9 g3_12 (0, 1, 0, g3_5)) else none else some (0, v3_13, v3_14, g3_5, g3_9, g3_12) else none
theorem i_X3_join_X3 : ∀ w ∈ wsX30, w ∈ wsX3_join := by decide +kernel
theorem i_X3_join_X5 : ∀ w ∈ wsX50, w ∈ wsX3_join := by decide +kernel
set_option maxHeartbeats 4000000 in
set_option maxRecDepth 100000 in
theorem c_X3_join (l : Launch) (dC : Nat → ClassId) (dI : Nat → Nat → Nat) (cyI cyZ cyJ : ClassId) (sz : Nat) (o7 : Nat) (a7_0 : Nat) (a7_1 : Nat) (v7_2 : Int32) (g7_0 : Nat → Int32) (o3 : Nat) (o1 : Nat) (v3_2 : Int32) (v3_3 : Int32) (v3_4 : Int32) (a3_5 : Nat) (a3_6 : Nat) (a3_7 : Nat) (a3_8 : Nat) (a3_9 : Nat) (a3_10 : Nat) (a3_11 : Nat) (a3_12 : Nat) (v3_13 : Int32) (v3_14 : Int32) (a3_15 : Nat) (a3_16 : Nat) (g3_5 : Nat → Int32) (n3_5 : Nat) (g3_8 : Nat → Int32) (n3_8 : Nat) (g3_9 : Nat → Int32) (n3_9 : Nat) (g3_12 : Nat → Int32) (n3_12 : Nat) (o5 : Nat) (a5_1 : Nat) (v5_2 : Int32) (v5_3 : Int32) (v5_4 : Int32) (v5_5 : Int32) (v5_6 : Int32) (v5_7 : Int32) (v5_8 : Int32) (v5_9 : Int32) (g5_1 : Nat → Int32) (p1 : Int32) (R : Int32 × Int32 × Int32 × (Nat → Int32) × (Nat → Int32) × (Nat → Int32)) (hf : f_X3_join v7_2 g7_0 v3_2 v3_3 v3_13 v3_14 g3_5 n3_5 g3_8 n3_8 g3_9 n3_9 g3_12 n3_12 v5_3 v5_5 g5_1 p1 = some R) : Met l yX3_join wsX3_join ({ frames := 3, cells := 0, slots := 0, locals := 72 }) (va_Pc [.ref o3, .int p1, .ref o5] (x_PreD (dC, dI) (x_T cyI cyZ cyJ) [(o7, .inr (7, [.ref a7_0, .ref a7_1, .int v7_2])), (a7_0, .inl (cyI, 200, .inl g7_0)), (o3, .inr (3, [.ref o7, .ref o1, .int v3_2, .int v3_3, .int v3_4, .ref a3_5, .ref a3_6, .ref a3_7, .ref a3_8, .ref a3_9, .ref a3_10, .ref a3_11, .ref a3_12, .int v3_13, .int v3_14, .ref a3_15, .ref a3_16])), (a3_5, .inl (cyI, n3_5, .inl g3_5)), (a3_8, .inl (cyI, n3_8, .inl g3_8)), (a3_9, .inl (cyI, n3_9, .inl g3_9)), (a3_12, .inl (cyI, n3_12, .inl g3_12)), (o5, .inr (5, [.ref o7, .ref a5_1, .int v5_2, .int v5_3, .int v5_4, .int v5_5, .int v5_6, .int v5_7, .int v5_8, .int v5_9])), (a5_1, .inl (cyI, 400, .inl g5_1))] sz)) (va_Qi (fun (r : Int32) (_ : Unit) => r = R.1 ∧ x_nb r) (fun (_ : Unit) (t : State) => va_P (dC, dI) vwCl [(o7, .inr (7, [.ref a7_0, .ref a7_1, .int v7_2])), (a7_0, .inl (cyI, 200, .inl g7_0)), (o3, .inr (3, [.ref o7, .ref o1, .int v3_2, .int v3_3, .int v3_4, .ref a3_5, .ref a3_6, .ref a3_7, .ref a3_8, .ref a3_9, .ref a3_10, .ref a3_11, .ref a3_12, .int (R.2.1), .int (R.2.2.1), .ref a3_15, .ref a3_16])), (a3_5, .inl (cyI, n3_5, .inl R.2.2.2.1)), (a3_8, .inl (cyI, n3_8, .inl g3_8)), (a3_9, .inl (cyI, n3_9, .inl R.2.2.2.2.1)), (a3_12, .inl (cyI, n3_12, .inl R.2.2.2.2.2)), (o5, .inr (5, [.ref o7, .ref a5_1, .int v5_2, .int v5_3, .int v5_4, .int v5_5, .int v5_6, .int v5_7, .int v5_8, .int v5_9])), (a5_1, .inl (cyI, 400, .inl g5_1))] t.heap ∧ va_K (dC, dI) vwCl (x_T cyI cyZ cyJ) t ∧ va_D (va_A [(o7, .inr (7, [.ref a7_0, .ref a7_1, .int v7_2])), (a7_0, .inl (cyI, 200, .inl g7_0)), (o3, .inr (3, [.ref o7, .ref o1, .int v3_2, .int v3_3, .int v3_4, .ref a3_5, .ref a3_6, .ref a3_7, .ref a3_8, .ref a3_9, .ref a3_10, .ref a3_11, .ref a3_12, .int v3_13, .int v3_14, .ref a3_15, .ref a3_16])), (a3_5, .inl (cyI, n3_5, .inl g3_5)), (a3_8, .inl (cyI, n3_8, .inl g3_8)), (a3_9, .inl (cyI, n3_9, .inl g3_9)), (a3_12, .inl (cyI, n3_12, .inl g3_12)), (o5, .inr (5, [.ref o7, .ref a5_1, .int v5_2, .int v5_3, .int v5_4, .int v5_5, .int v5_6, .int v5_7, .int v5_8, .int v5_9])), (a5_1, .inl (cyI, 400, .inl g5_1))] sz) [(o7, .inr (7, [.ref a7_0, .ref a7_1, .int v7_2])), (a7_0, .inl (cyI, 200, .inl g7_0)), (o3, .inr (3, [.ref o7, .ref o1, .int v3_2, .int v3_3, .int v3_4, .ref a3_5, .ref a3_6, .ref a3_7, .ref a3_8, .ref a3_9, .ref a3_10, .ref a3_11, .ref a3_12, .int (R.2.1), .int (R.2.2.1), .ref a3_15, .ref a3_16])), (a3_5, .inl (cyI, n3_5, .inl R.2.2.2.1)), (a3_8, .inl (cyI, n3_8, .inl g3_8)), (a3_9, .inl (cyI, n3_9, .inl R.2.2.2.2.1)), (a3_12, .inl (cyI, n3_12, .inl R.2.2.2.2.2)), (o5, .inr (5, [.ref o7, .ref a5_1, .int v5_2, .int v5_3, .int v5_4, .int v5_5, .int v5_6, .int v5_7, .int v5_8, .int v5_9])), (a5_1, .inl (cyI, 400, .inl g5_1))]) (va_A [(o7, .inr (7, [.ref a7_0, .ref a7_1, .int v7_2])), (a7_0, .inl (cyI, 200, .inl g7_0)), (o3, .inr (3, [.ref o7, .ref o1, .int v3_2, .int v3_3, .int v3_4, .ref a3_5, .ref a3_6, .ref a3_7, .ref a3_8, .ref a3_9, .ref a3_10, .ref a3_11, .ref a3_12, .int v3_13, .int v3_14, .ref a3_15, .ref a3_16])), (a3_5, .inl (cyI, n3_5, .inl g3_5)), (a3_8, .inl (cyI, n3_8, .inl g3_8)), (a3_9, .inl (cyI, n3_9, .inl g3_9)), (a3_12, .inl (cyI, n3_12, .inl g3_12)), (o5, .inr (5, [.ref o7, .ref a5_1, .int v5_2, .int v5_3, .int v5_4, .int v5_5, .int v5_6, .int v5_7, .int v5_8, .int v5_9])), (a5_1, .inl (cyI, 400, .inl g5_1))] sz)) 0 0 (va_A [(o7, .inr (7, [.ref a7_0, .ref a7_1, .int v7_2])), (a7_0, .inl (cyI, 200, .inl g7_0)), (o3, .inr (3, [.ref o7, .ref o1, .int v3_2, .int v3_3, .int v3_4, .ref a3_5, .ref a3_6, .ref a3_7, .ref a3_8, .ref a3_9, .ref a3_10, .ref a3_11, .ref a3_12, .int v3_13, .int v3_14, .ref a3_15, .ref a3_16])), (a3_5, .inl (cyI, n3_5, .inl g3_5)), (a3_8, .inl (cyI, n3_8, .inl g3_8)), (a3_9, .inl (cyI, n3_9, .inl g3_9)), (a3_12, .inl (cyI, n3_12, .inl g3_12)), (o5, .inr (5, [.ref o7, .ref a5_1, .int v5_2, .int v5_3, .int v5_4, .int v5_5, .int v5_6, .int v5_7, .int v5_8, .int v5_9])), (a5_1, .inl (cyI, 400, .inl g5_1))] sz) := by
  refine Met.ofW (cc := cX3_join) (maxL := 8) (ret := (some .boolean)) (by decide) rfl ?_
  intro p e s m args below meth c s₁ B hml hv
  obtain ⟨rfl, ⟨hsz, hP, hK, hN⟩, hD0⟩ := hv
  have hx := B.exec
  have hb := B.bytes
  have hr := B.returns
  have hts := atoms_spec (ws := wsX3_join) B.pre
  have hown : s.vm.findClass RX3 = some m.cls := findClass_of_methodNamed B.named
  have k_1 := hts (.fieldLink RX3 24 "FlowJudge$Frames" "made" "[I") (by decide +kernel)
  have k_2 := hts (.fieldLink RX3 9 "FlowJudge$Frames" "words" "[I") (by decide +kernel)
  have k_3 := hts (.fieldLink RX3 49 "FlowJudge$Frames" "types" "LFlowJudge$Types;") (by decide +kernel)
  have k_4 := hts (.fieldLink RX3 63 "FlowJudge$Frames" "locals" "I") (by decide +kernel)
  have k_5 := hts (.fieldLink RX3 21 "FlowJudge$Frames" "heights" "[I") (by decide +kernel)
  have k_6 := hts (.fieldLink RX3 66 "FlowJudge$Frames" "size" "I") (by decide +kernel)
  subst hsz
  have hD := hD0.self (sz := s.heap.size)
  generalize hAe : va_A [(o7, .inr (7, [.ref a7_0, .ref a7_1, .int v7_2])), (a7_0, .inl (cyI, 200, .inl g7_0)), (o3, .inr (3, [.ref o7, .ref o1, .int v3_2, .int v3_3, .int v3_4, .ref a3_5, .ref a3_6, .ref a3_7, .ref a3_8, .ref a3_9, .ref a3_10, .ref a3_11, .ref a3_12, .int v3_13, .int v3_14, .ref a3_15, .ref a3_16])), (a3_5, .inl (cyI, n3_5, .inl g3_5)), (a3_8, .inl (cyI, n3_8, .inl g3_8)), (a3_9, .inl (cyI, n3_9, .inl g3_9)), (a3_12, .inl (cyI, n3_12, .inl g3_12)), (o5, .inr (5, [.ref o7, .ref a5_1, .int v5_2, .int v5_3, .int v5_4, .int v5_5, .int v5_6, .int v5_7, .int v5_8, .int v5_9])), (a5_1, .inl (cyI, 400, .inl g5_1))] s.heap.size = A at hD ⊢
  have hA : ∀ q : Nat, s.heap.size ≤ q → A q := fun q h => by rw [← hAe]; exact Or.inr h
  have hP : va_P (dC, dI) vwCl [(o7, .inr (7, [.ref a7_0, .ref a7_1, .int v7_2])), (a7_0, .inl (cyI, 200, .inl g7_0)), (o3, .inr (3, [.ref o7, .ref o1, .int v3_2, .int v3_3, .int v3_4, .ref a3_5, .ref a3_6, .ref a3_7, .ref a3_8, .ref a3_9, .ref a3_10, .ref a3_11, .ref a3_12, .int v3_13, .int v3_14, .ref a3_15, .ref a3_16])), (a3_5, .inl (cyI, n3_5, .inl g3_5)), (a3_8, .inl (cyI, n3_8, .inl g3_8)), (a3_9, .inl (cyI, n3_9, .inl g3_9)), (a3_12, .inl (cyI, n3_12, .inl g3_12)), (o5, .inr (5, [.ref o7, .ref a5_1, .int v5_2, .int v5_3, .int v5_4, .int v5_5, .int v5_6, .int v5_7, .int v5_8, .int v5_9])), (a5_1, .inl (cyI, 400, .inl g5_1))] s.heap := hP
  have hl := lv_entry ([.ref o3, .int p1, .ref o5]) (n := 8) (Nat.le_of_ble_eq_true rfl)
  rw [lg_entry_eq]
  generalize (lg_sl ([.ref o3, .int p1, .ref o5]) ++ List.replicate (8 - (lg_sl ([.ref o3, .int p1, .ref o5])).length) Slot.unset).toArray = ls at hl ⊢
  have hl : lv_has ls 8 [(0, .ref o3), (1, .int p1), (2, .ref o5)] := hl
  obtain ⟨H, hH⟩ : ∃ z, z = s.heap := ⟨_, rfl⟩
  refine x_here hH ?_
  have hP : va_P (dC, dI) vwCl [(o7, .inr (7, [.ref a7_0, .ref a7_1, .int v7_2])), (a7_0, .inl (cyI, 200, .inl g7_0)), (o3, .inr (3, [.ref o7, .ref o1, .int v3_2, .int v3_3, .int v3_4, .ref a3_5, .ref a3_6, .ref a3_7, .ref a3_8, .ref a3_9, .ref a3_10, .ref a3_11, .ref a3_12, .int v3_13, .int v3_14, .ref a3_15, .ref a3_16])), (a3_5, .inl (cyI, n3_5, .inl g3_5)), (a3_8, .inl (cyI, n3_8, .inl g3_8)), (a3_9, .inl (cyI, n3_9, .inl g3_9)), (a3_12, .inl (cyI, n3_12, .inl g3_12)), (o5, .inr (5, [.ref o7, .ref a5_1, .int v5_2, .int v5_3, .int v5_4, .int v5_5, .int v5_6, .int v5_7, .int v5_8, .int v5_9])), (a5_1, .inl (cyI, 400, .inl g5_1))] H := by rw [hH]; exact hP
  have hS : va_S A s.heap H [] := by rw [hH]; exact va_S.rf
  clear hH
  obtain ⟨locs, hlo⟩ : ∃ z : List Loc, z = [] := ⟨_, rfl⟩
  refine x_herl hlo ?_
  have hS : va_S A s.heap H locs := by rw [hlo]; exact hS
  clear hlo
  unfold f_X3_join at hf
  refine x_wn (fun WW hWW => ?_)
  have J := fun (l1 : Int32) (l4 : Int32) (v3_13 : Int32) (v3_14 : Int32) (g3_9 : Nat → Int32) (g3_12 : Nat → Int32) => f_X3_join_L.partial_correctness v7_2 g7_0 v3_2 v3_3 n3_5 g3_8 n3_8 n3_9 n3_12 v5_3 v5_5 g5_1 l1 l4 v3_13 v3_14 g3_9 g3_12 (fun (z : Nat × Int32 × Int32 × (Nat → Int32)) (r : Int32 × Int32 × Int32 × (Nat → Int32) × (Nat → Int32) × (Nat → Int32)) => r = R → ∀ (q : Nat) (l3 : Int32) (l5 : Int32) (g3_5 : Nat → Int32), z = (q, l3, l5, g3_5) → ((q = 0 → ∀ (H : Heap) (locs : List Loc) (ls : Array Slot), va_P (dC, dI) vwCl [(o7, .inr (7, [.ref a7_0, .ref a7_1, .int v7_2])), (a7_0, .inl (cyI, 200, .inl g7_0)), (o3, .inr (3, [.ref o7, .ref o1, .int v3_2, .int v3_3, .int v3_4, .ref a3_5, .ref a3_6, .ref a3_7, .ref a3_8, .ref a3_9, .ref a3_10, .ref a3_11, .ref a3_12, .int v3_13, .int v3_14, .ref a3_15, .ref a3_16])), (a3_5, .inl (cyI, n3_5, .inl g3_5)), (a3_8, .inl (cyI, n3_8, .inl g3_8)), (a3_9, .inl (cyI, n3_9, .inl g3_9)), (a3_12, .inl (cyI, n3_12, .inl g3_12)), (o5, .inr (5, [.ref o7, .ref a5_1, .int v5_2, .int v5_3, .int v5_4, .int v5_5, .int v5_6, .int v5_7, .int v5_8, .int v5_9])), (a5_1, .inl (cyI, 400, .inl g5_1))] H → va_D A [(o7, .inr (7, [.ref a7_0, .ref a7_1, .int v7_2])), (a7_0, .inl (cyI, 200, .inl g7_0)), (o3, .inr (3, [.ref o7, .ref o1, .int v3_2, .int v3_3, .int v3_4, .ref a3_5, .ref a3_6, .ref a3_7, .ref a3_8, .ref a3_9, .ref a3_10, .ref a3_11, .ref a3_12, .int v3_13, .int v3_14, .ref a3_15, .ref a3_16])), (a3_5, .inl (cyI, n3_5, .inl g3_5)), (a3_8, .inl (cyI, n3_8, .inl g3_8)), (a3_9, .inl (cyI, n3_9, .inl g3_9)), (a3_12, .inl (cyI, n3_12, .inl g3_12)), (o5, .inr (5, [.ref o7, .ref a5_1, .int v5_2, .int v5_3, .int v5_4, .int v5_5, .int v5_6, .int v5_7, .int v5_8, .int v5_9])), (a5_1, .inl (cyI, 400, .inl g5_1))] → va_S A s.heap H locs → lv_has ls 8 [(0, .ref o3), (1, .int l1), (2, .ref o5), (3, .int l3), (4, .int l4), (5, .int l5)] → WW H locs 0 0 (F0 m 50 ls [])))) (by
    intro F ih z r hf hr q l3 l5 g3_5 hz
    subst hz
    obtain rfl := hr
    · intro hq H locs ls hP hD hS hl
      subst hq
      refine (hWW _ _ _ _ _).mp ?_
      replace hf := x_ip rfl hf
      refine lv_iload hx hb dX3_join_50 (lv_at hl 5 rfl) ?_
      refine lv_aload_n hx hb dX3_join_52 rfl (lv_at hl 2 rfl) ?_
      refine va_getN (D := (dC, dI)) (ci := 5) (v := .int v5_3) (C := RX5) (T := TX5) (N := 10) hx hb hts i_X3_join_X5 hown hK hP 7 rfl rfl 3 (by decide) ((hN.1 ("FlowJudge$Frames", 79, "FlowJudge$Places", "top", "I") (List.mem_of_getElem? (i := 31) rfl)).use rfl) (fun _ h9 => h9) rfl dX3_join_53 ?_
      refine lv_icmp_ge (tgt := 186) hx hb dX3_join_56 (by decide) (fun c_1 => ?_) (fun c_1 => ?_)
      · replace hf := x_ip c_1 hf
        refine lv_iload_n hx hb dX3_join_186 rfl (lv_at hl 3 rfl) ?_
        refine lv_if_eq (tgt := 227) hx hb dX3_join_187 (by decide) (fun c_2 => ?_) (fun c_2 => ?_)
        · replace hf := x_ip c_2 hf
          refine lv_iconst (v := 1) hx hb dX3_join_227 (by decide) ?_
          obtain rfl := Option.some.inj hf
          have hP9 := hP.sub (ws' := [(o7, .inr (7, [.ref a7_0, .ref a7_1, .int v7_2])), (a7_0, .inl (cyI, 200, .inl g7_0)), (o3, .inr (3, [.ref o7, .ref o1, .int v3_2, .int v3_3, .int v3_4, .ref a3_5, .ref a3_6, .ref a3_7, .ref a3_8, .ref a3_9, .ref a3_10, .ref a3_11, .ref a3_12, .int v3_13, .int v3_14, .ref a3_15, .ref a3_16])), (a3_5, .inl (cyI, n3_5, .inl g3_5)), (a3_8, .inl (cyI, n3_8, .inl g3_8)), (a3_9, .inl (cyI, n3_9, .inl g3_9)), (a3_12, .inl (cyI, n3_12, .inl g3_12)), (o5, .inr (5, [.ref o7, .ref a5_1, .int v5_2, .int v5_3, .int v5_4, .int v5_5, .int v5_6, .int v5_7, .int v5_8, .int v5_9])), (a5_1, .inl (cyI, 400, .inl g5_1))]) [0, 1, 2, 3, 4, 5, 6, 7, 8] rfl
          have hD9 := hD.sub (ws' := [(o7, .inr (7, [.ref a7_0, .ref a7_1, .int v7_2])), (a7_0, .inl (cyI, 200, .inl g7_0)), (o3, .inr (3, [.ref o7, .ref o1, .int v3_2, .int v3_3, .int v3_4, .ref a3_5, .ref a3_6, .ref a3_7, .ref a3_8, .ref a3_9, .ref a3_10, .ref a3_11, .ref a3_12, .int v3_13, .int v3_14, .ref a3_15, .ref a3_16])), (a3_5, .inl (cyI, n3_5, .inl g3_5)), (a3_8, .inl (cyI, n3_8, .inl g3_8)), (a3_9, .inl (cyI, n3_9, .inl g3_9)), (a3_12, .inl (cyI, n3_12, .inl g3_12)), (o5, .inr (5, [.ref o7, .ref a5_1, .int v5_2, .int v5_3, .int v5_4, .int v5_5, .int v5_6, .int v5_7, .int v5_8, .int v5_9])), (a5_1, .inl (cyI, 400, .inl g5_1))]) [0, 1, 2, 3, 4, 5, 6, 7, 8] (by decide) rfl
          exact W.zret (ty := .boolean) hx hb hr rfl (fun t ht hW => ⟨⟨_, (), rfl, ⟨rfl, rfl⟩, by rw [ht]; exact hP9, va_K.moved hW.alike hK, hD9⟩, hS.F ht⟩) hS.2.2 dX3_join_228
        · replace hf := x_in c_2 hf
          refine lv_aload_n hx hb dX3_join_190 rfl (lv_at hl 0 rfl) ?_
          refine va_get (D := (dC, dI)) (ci := 3) (v := .ref a3_9) (C := RX3) (T := TX3) (N := 17) hx hb hts i_X3_join_X3 hown hK hP 2 rfl rfl 9 (by decide) k_1 (fun _ h9 => h9) rfl dX3_join_191 ?_
          refine lv_iload_n hx hb dX3_join_194 rfl (lv_at hl 1 rfl) ?_
          refine lv_aload_n hx hb dX3_join_195 rfl (lv_at hl 2 rfl) ?_
          refine va_getN (D := (dC, dI)) (ci := 5) (v := .int v5_5) (C := RX5) (T := TX5) (N := 10) hx hb hts i_X3_join_X5 hown hK hP 7 rfl rfl 5 (by decide) ((hN.1 ("FlowJudge$Frames", 84, "FlowJudge$Places", "made", "I") (List.mem_of_getElem? (i := 32) rfl)).use rfl) (fun _ h9 => h9) rfl dX3_join_196 ?_
          refine lv_aload_n hx hb dX3_join_199 rfl (lv_at hl 0 rfl) ?_
          refine va_get (D := (dC, dI)) (ci := 3) (v := .ref a3_9) (C := RX3) (T := TX3) (N := 17) hx hb hts i_X3_join_X3 hown hK hP 2 rfl rfl 9 (by decide) k_1 (fun _ h9 => h9) rfl dX3_join_200 ?_
          refine lv_iload_n hx hb dX3_join_203 rfl (lv_at hl 1 rfl) ?_
          obtain ⟨g_3, hf⟩ := x_gu hf
          refine va_iald hx hb hK hP 5 0 rfl rfl (x_gdin g_3) dX3_join_204 ?_
          refine lv_icmp_ge (tgt := 215) hx hb dX3_join_205 (by decide) (fun c_4 => ?_) (fun c_4 => ?_)
          · replace hf := x_ip c_4 hf
            refine lv_aload_n hx hb dX3_join_215 rfl (lv_at hl 0 rfl) ?_
            refine va_get (D := (dC, dI)) (ci := 3) (v := .ref a3_9) (C := RX3) (T := TX3) (N := 17) hx hb hts i_X3_join_X3 hown hK hP 2 rfl rfl 9 (by decide) k_1 (fun _ h9 => h9) rfl dX3_join_216 ?_
            refine lv_iload_n hx hb dX3_join_219 rfl (lv_at hl 1 rfl) ?_
            obtain ⟨g_5, hf⟩ := x_gu hf
            refine va_iald hx hb hK hP 5 0 rfl rfl (x_gdin g_5) dX3_join_220 ?_
            obtain ⟨g_6, hf⟩ := x_gu hf
            refine va_iast hx hb hK hP hD hS 5 0 rfl rfl (x_gdin g_6) dX3_join_221 (fun H locs hP hD hS => ?_)
            have hP : va_P (dC, dI) vwCl [(o7, .inr (7, [.ref a7_0, .ref a7_1, .int v7_2])), (a7_0, .inl (cyI, 200, .inl g7_0)), (o3, .inr (3, [.ref o7, .ref o1, .int v3_2, .int v3_3, .int v3_4, .ref a3_5, .ref a3_6, .ref a3_7, .ref a3_8, .ref a3_9, .ref a3_10, .ref a3_11, .ref a3_12, .int v3_13, .int v3_14, .ref a3_15, .ref a3_16])), (a3_5, .inl (cyI, n3_5, .inl g3_5)), (a3_8, .inl (cyI, n3_8, .inl g3_8)), (a3_9, .inl (cyI, n3_9, .inl (upd g3_9 (Int32.toNatClampNeg l1) (g3_9 (Int32.toNatClampNeg l1))))), (a3_12, .inl (cyI, n3_12, .inl g3_12)), (o5, .inr (5, [.ref o7, .ref a5_1, .int v5_2, .int v5_3, .int v5_4, .int v5_5, .int v5_6, .int v5_7, .int v5_8, .int v5_9])), (a5_1, .inl (cyI, 400, .inl g5_1))] H := hP
            have hD : va_D A [(o7, .inr (7, [.ref a7_0, .ref a7_1, .int v7_2])), (a7_0, .inl (cyI, 200, .inl g7_0)), (o3, .inr (3, [.ref o7, .ref o1, .int v3_2, .int v3_3, .int v3_4, .ref a3_5, .ref a3_6, .ref a3_7, .ref a3_8, .ref a3_9, .ref a3_10, .ref a3_11, .ref a3_12, .int v3_13, .int v3_14, .ref a3_15, .ref a3_16])), (a3_5, .inl (cyI, n3_5, .inl g3_5)), (a3_8, .inl (cyI, n3_8, .inl g3_8)), (a3_9, .inl (cyI, n3_9, .inl (upd g3_9 (Int32.toNatClampNeg l1) (g3_9 (Int32.toNatClampNeg l1))))), (a3_12, .inl (cyI, n3_12, .inl g3_12)), (o5, .inr (5, [.ref o7, .ref a5_1, .int v5_2, .int v5_3, .int v5_4, .int v5_5, .int v5_6, .int v5_7, .int v5_8, .int v5_9])), (a5_1, .inl (cyI, 400, .inl g5_1))] := hD
            refine lv_aload_n hx hb dX3_join_222 rfl (lv_at hl 0 rfl) ?_
            refine lv_iload_n hx hb dX3_join_223 rfl (lv_at hl 1 rfl) ?_
            obtain ⟨r_7, h_7, hf⟩ := x_bi hf
            have hPc := hP.sub (ws' := [(o3, .inr (3, [.ref o7, .ref o1, .int v3_2, .int v3_3, .int v3_4, .ref a3_5, .ref a3_6, .ref a3_7, .ref a3_8, .ref a3_9, .ref a3_10, .ref a3_11, .ref a3_12, .int v3_13, .int v3_14, .ref a3_15, .ref a3_16])), (a3_12, .inl (cyI, n3_12, .inl g3_12))]) [2, 6] rfl
            have hDc := hD.sub (ws' := [(o3, .inr (3, [.ref o7, .ref o1, .int v3_2, .int v3_3, .int v3_4, .ref a3_5, .ref a3_6, .ref a3_7, .ref a3_8, .ref a3_9, .ref a3_10, .ref a3_11, .ref a3_12, .int v3_13, .int v3_14, .ref a3_15, .ref a3_16])), (a3_12, .inl (cyI, n3_12, .inl g3_12))]) [2, 6] (by decide) rfl
            have hFc := va_free (wc := [(o3, .inr (3, [.ref o7, .ref o1, .int v3_2, .int v3_3, .int v3_4, .ref a3_5, .ref a3_6, .ref a3_7, .ref a3_8, .ref a3_9, .ref a3_10, .ref a3_11, .ref a3_12, .int v3_13, .int v3_14, .ref a3_15, .ref a3_16])), (a3_12, .inl (cyI, n3_12, .inl g3_12))]) hD hS hA [2, 6] rfl
            refine va_callv (va_runV (As := [.int l1]) (rest := []) ⟨hx, hb, hml, hown, hts⟩ (c_X3_await l dC dI cyI cyZ cyJ H.size o3 o7 o1 v3_2 v3_3 v3_4 a3_5 a3_6 a3_7 a3_8 a3_9 a3_10 a3_11 a3_12 v3_13 v3_14 a3_15 a3_16 g3_12 n3_12 l1 r_7 h_7) (cwV 1 hts gX3_join_X3_await rfl rfl rfl (by decide +kernel) ⟨Nat.le_of_ble_eq_true rfl, Nat.le_of_ble_eq_true rfl⟩) (x_pVD hN hK hPc hDc (ci := 3) (q0 := 0) rfl rfl) rfl rfl hl.1 rfl (lv_room (Nat.le_of_ble_eq_true rfl)) dX3_join_224 ⟨Nat.le_of_ble_eq_true rfl, Nat.le_of_ble_eq_true rfl⟩) hS (fun q _ h => hFc q h) hFc (fun u t H1 locs ht hvm hw hB hz1 hk1 hS => ?_)
            obtain ⟨hP1, hK1, hD1⟩ := hB
            rw [ht] at hP1
            obtain ⟨hP, hD⟩ := va_join (wr := [(o7, .inr (7, [.ref a7_0, .ref a7_1, .int v7_2])), (a7_0, .inl (cyI, 200, .inl g7_0)), (a3_5, .inl (cyI, n3_5, .inl g3_5)), (a3_8, .inl (cyI, n3_8, .inl g3_8)), (a3_9, .inl (cyI, n3_9, .inl (upd g3_9 (Int32.toNatClampNeg l1) (g3_9 (Int32.toNatClampNeg l1))))), (o5, .inr (5, [.ref o7, .ref a5_1, .int v5_2, .int v5_3, .int v5_4, .int v5_5, .int v5_6, .int v5_7, .int v5_8, .int v5_9])), (a5_1, .inl (cyI, 400, .inl g5_1))]) (w1 := [(o3, .inr (3, [.ref o7, .ref o1, .int v3_2, .int v3_3, .int v3_4, .ref a3_5, .ref a3_6, .ref a3_7, .ref a3_8, .ref a3_9, .ref a3_10, .ref a3_11, .ref a3_12, .int (r_7.1), .int (r_7.2.1), .ref a3_15, .ref a3_16])), (a3_12, .inl (cyI, n3_12, .inl r_7.2.2))]) hP hD [2, 6] [0, 1, 3, 4, 5, 7, 8] rfl rfl (by decide) (by decide) hk1 hFc hP1 hD1
            clear hz1 hk1 hPc hDc hFc hP1 hK1 hD1 ht hvm t u
            generalize H1 = H at hP hS ⊢
            have hP : va_P (dC, dI) vwCl [(o7, .inr (7, [.ref a7_0, .ref a7_1, .int v7_2])), (a7_0, .inl (cyI, 200, .inl g7_0)), (a3_5, .inl (cyI, n3_5, .inl g3_5)), (a3_8, .inl (cyI, n3_8, .inl g3_8)), (a3_9, .inl (cyI, n3_9, .inl (upd g3_9 (Int32.toNatClampNeg l1) (g3_9 (Int32.toNatClampNeg l1))))), (o5, .inr (5, [.ref o7, .ref a5_1, .int v5_2, .int v5_3, .int v5_4, .int v5_5, .int v5_6, .int v5_7, .int v5_8, .int v5_9])), (a5_1, .inl (cyI, 400, .inl g5_1)), (o3, .inr (3, [.ref o7, .ref o1, .int v3_2, .int v3_3, .int v3_4, .ref a3_5, .ref a3_6, .ref a3_7, .ref a3_8, .ref a3_9, .ref a3_10, .ref a3_11, .ref a3_12, .int (r_7.1), .int (r_7.2.1), .ref a3_15, .ref a3_16])), (a3_12, .inl (cyI, n3_12, .inl r_7.2.2))] H := hP
            have hD : va_D A [(o7, .inr (7, [.ref a7_0, .ref a7_1, .int v7_2])), (a7_0, .inl (cyI, 200, .inl g7_0)), (a3_5, .inl (cyI, n3_5, .inl g3_5)), (a3_8, .inl (cyI, n3_8, .inl g3_8)), (a3_9, .inl (cyI, n3_9, .inl (upd g3_9 (Int32.toNatClampNeg l1) (g3_9 (Int32.toNatClampNeg l1))))), (o5, .inr (5, [.ref o7, .ref a5_1, .int v5_2, .int v5_3, .int v5_4, .int v5_5, .int v5_6, .int v5_7, .int v5_8, .int v5_9])), (a5_1, .inl (cyI, 400, .inl g5_1)), (o3, .inr (3, [.ref o7, .ref o1, .int v3_2, .int v3_3, .int v3_4, .ref a3_5, .ref a3_6, .ref a3_7, .ref a3_8, .ref a3_9, .ref a3_10, .ref a3_11, .ref a3_12, .int (r_7.1), .int (r_7.2.1), .ref a3_15, .ref a3_16])), (a3_12, .inl (cyI, n3_12, .inl r_7.2.2))] := hD
            refine lv_iconst (v := 1) hx hb dX3_join_227 (by decide) ?_
            obtain rfl := Option.some.inj hf
            have hP9 := hP.sub (ws' := [(o7, .inr (7, [.ref a7_0, .ref a7_1, .int v7_2])), (a7_0, .inl (cyI, 200, .inl g7_0)), (o3, .inr (3, [.ref o7, .ref o1, .int v3_2, .int v3_3, .int v3_4, .ref a3_5, .ref a3_6, .ref a3_7, .ref a3_8, .ref a3_9, .ref a3_10, .ref a3_11, .ref a3_12, .int (r_7.1), .int (r_7.2.1), .ref a3_15, .ref a3_16])), (a3_5, .inl (cyI, n3_5, .inl g3_5)), (a3_8, .inl (cyI, n3_8, .inl g3_8)), (a3_9, .inl (cyI, n3_9, .inl (upd g3_9 (Int32.toNatClampNeg l1) (g3_9 (Int32.toNatClampNeg l1))))), (a3_12, .inl (cyI, n3_12, .inl r_7.2.2)), (o5, .inr (5, [.ref o7, .ref a5_1, .int v5_2, .int v5_3, .int v5_4, .int v5_5, .int v5_6, .int v5_7, .int v5_8, .int v5_9])), (a5_1, .inl (cyI, 400, .inl g5_1))]) [0, 1, 7, 2, 3, 4, 8, 5, 6] rfl
            have hD9 := hD.sub (ws' := [(o7, .inr (7, [.ref a7_0, .ref a7_1, .int v7_2])), (a7_0, .inl (cyI, 200, .inl g7_0)), (o3, .inr (3, [.ref o7, .ref o1, .int v3_2, .int v3_3, .int v3_4, .ref a3_5, .ref a3_6, .ref a3_7, .ref a3_8, .ref a3_9, .ref a3_10, .ref a3_11, .ref a3_12, .int (r_7.1), .int (r_7.2.1), .ref a3_15, .ref a3_16])), (a3_5, .inl (cyI, n3_5, .inl g3_5)), (a3_8, .inl (cyI, n3_8, .inl g3_8)), (a3_9, .inl (cyI, n3_9, .inl (upd g3_9 (Int32.toNatClampNeg l1) (g3_9 (Int32.toNatClampNeg l1))))), (a3_12, .inl (cyI, n3_12, .inl r_7.2.2)), (o5, .inr (5, [.ref o7, .ref a5_1, .int v5_2, .int v5_3, .int v5_4, .int v5_5, .int v5_6, .int v5_7, .int v5_8, .int v5_9])), (a5_1, .inl (cyI, 400, .inl g5_1))]) [0, 1, 7, 2, 3, 4, 8, 5, 6] (by decide) rfl
            exact W.zret (ty := .boolean) hx hb hr rfl (fun t ht hW => ⟨⟨_, (), rfl, ⟨rfl, rfl⟩, by rw [ht]; exact hP9, va_K.moved hW.alike hK, hD9⟩, hS.F ht⟩) hS.2.2 dX3_join_228
          · replace hf := x_in c_4 hf
            refine lv_aload_n hx hb dX3_join_208 rfl (lv_at hl 2 rfl) ?_
            refine va_getN (D := (dC, dI)) (ci := 5) (v := .int v5_5) (C := RX5) (T := TX5) (N := 10) hx hb hts i_X3_join_X5 hown hK hP 7 rfl rfl 5 (by decide) ((hN.1 ("FlowJudge$Frames", 84, "FlowJudge$Places", "made", "I") (List.mem_of_getElem? (i := 32) rfl)).use rfl) (fun _ h9 => h9) rfl dX3_join_209 ?_
            refine lv_goto (tgt := 221) hx hb dX3_join_212 (by decide) ?_
            obtain ⟨g_8, hf⟩ := x_gu hf
            refine va_iast hx hb hK hP hD hS 5 0 rfl rfl (x_gdin g_8) dX3_join_221 (fun H locs hP hD hS => ?_)
            have hP : va_P (dC, dI) vwCl [(o7, .inr (7, [.ref a7_0, .ref a7_1, .int v7_2])), (a7_0, .inl (cyI, 200, .inl g7_0)), (o3, .inr (3, [.ref o7, .ref o1, .int v3_2, .int v3_3, .int v3_4, .ref a3_5, .ref a3_6, .ref a3_7, .ref a3_8, .ref a3_9, .ref a3_10, .ref a3_11, .ref a3_12, .int v3_13, .int v3_14, .ref a3_15, .ref a3_16])), (a3_5, .inl (cyI, n3_5, .inl g3_5)), (a3_8, .inl (cyI, n3_8, .inl g3_8)), (a3_9, .inl (cyI, n3_9, .inl (upd g3_9 (Int32.toNatClampNeg l1) v5_5))), (a3_12, .inl (cyI, n3_12, .inl g3_12)), (o5, .inr (5, [.ref o7, .ref a5_1, .int v5_2, .int v5_3, .int v5_4, .int v5_5, .int v5_6, .int v5_7, .int v5_8, .int v5_9])), (a5_1, .inl (cyI, 400, .inl g5_1))] H := hP
            have hD : va_D A [(o7, .inr (7, [.ref a7_0, .ref a7_1, .int v7_2])), (a7_0, .inl (cyI, 200, .inl g7_0)), (o3, .inr (3, [.ref o7, .ref o1, .int v3_2, .int v3_3, .int v3_4, .ref a3_5, .ref a3_6, .ref a3_7, .ref a3_8, .ref a3_9, .ref a3_10, .ref a3_11, .ref a3_12, .int v3_13, .int v3_14, .ref a3_15, .ref a3_16])), (a3_5, .inl (cyI, n3_5, .inl g3_5)), (a3_8, .inl (cyI, n3_8, .inl g3_8)), (a3_9, .inl (cyI, n3_9, .inl (upd g3_9 (Int32.toNatClampNeg l1) v5_5))), (a3_12, .inl (cyI, n3_12, .inl g3_12)), (o5, .inr (5, [.ref o7, .ref a5_1, .int v5_2, .int v5_3, .int v5_4, .int v5_5, .int v5_6, .int v5_7, .int v5_8, .int v5_9])), (a5_1, .inl (cyI, 400, .inl g5_1))] := hD
            refine lv_aload_n hx hb dX3_join_222 rfl (lv_at hl 0 rfl) ?_
            refine lv_iload_n hx hb dX3_join_223 rfl (lv_at hl 1 rfl) ?_
            obtain ⟨r_9, h_9, hf⟩ := x_bi hf
            have hPc := hP.sub (ws' := [(o3, .inr (3, [.ref o7, .ref o1, .int v3_2, .int v3_3, .int v3_4, .ref a3_5, .ref a3_6, .ref a3_7, .ref a3_8, .ref a3_9, .ref a3_10, .ref a3_11, .ref a3_12, .int v3_13, .int v3_14, .ref a3_15, .ref a3_16])), (a3_12, .inl (cyI, n3_12, .inl g3_12))]) [2, 6] rfl
            have hDc := hD.sub (ws' := [(o3, .inr (3, [.ref o7, .ref o1, .int v3_2, .int v3_3, .int v3_4, .ref a3_5, .ref a3_6, .ref a3_7, .ref a3_8, .ref a3_9, .ref a3_10, .ref a3_11, .ref a3_12, .int v3_13, .int v3_14, .ref a3_15, .ref a3_16])), (a3_12, .inl (cyI, n3_12, .inl g3_12))]) [2, 6] (by decide) rfl
            have hFc := va_free (wc := [(o3, .inr (3, [.ref o7, .ref o1, .int v3_2, .int v3_3, .int v3_4, .ref a3_5, .ref a3_6, .ref a3_7, .ref a3_8, .ref a3_9, .ref a3_10, .ref a3_11, .ref a3_12, .int v3_13, .int v3_14, .ref a3_15, .ref a3_16])), (a3_12, .inl (cyI, n3_12, .inl g3_12))]) hD hS hA [2, 6] rfl
            refine va_callv (va_runV (As := [.int l1]) (rest := []) ⟨hx, hb, hml, hown, hts⟩ (c_X3_await l dC dI cyI cyZ cyJ H.size o3 o7 o1 v3_2 v3_3 v3_4 a3_5 a3_6 a3_7 a3_8 a3_9 a3_10 a3_11 a3_12 v3_13 v3_14 a3_15 a3_16 g3_12 n3_12 l1 r_9 h_9) (cwV 1 hts gX3_join_X3_await rfl rfl rfl (by decide +kernel) ⟨Nat.le_of_ble_eq_true rfl, Nat.le_of_ble_eq_true rfl⟩) (x_pVD hN hK hPc hDc (ci := 3) (q0 := 0) rfl rfl) rfl rfl hl.1 rfl (lv_room (Nat.le_of_ble_eq_true rfl)) dX3_join_224 ⟨Nat.le_of_ble_eq_true rfl, Nat.le_of_ble_eq_true rfl⟩) hS (fun q _ h => hFc q h) hFc (fun u t H1 locs ht hvm hw hB hz1 hk1 hS => ?_)
            obtain ⟨hP1, hK1, hD1⟩ := hB
            rw [ht] at hP1
            obtain ⟨hP, hD⟩ := va_join (wr := [(o7, .inr (7, [.ref a7_0, .ref a7_1, .int v7_2])), (a7_0, .inl (cyI, 200, .inl g7_0)), (a3_5, .inl (cyI, n3_5, .inl g3_5)), (a3_8, .inl (cyI, n3_8, .inl g3_8)), (a3_9, .inl (cyI, n3_9, .inl (upd g3_9 (Int32.toNatClampNeg l1) v5_5))), (o5, .inr (5, [.ref o7, .ref a5_1, .int v5_2, .int v5_3, .int v5_4, .int v5_5, .int v5_6, .int v5_7, .int v5_8, .int v5_9])), (a5_1, .inl (cyI, 400, .inl g5_1))]) (w1 := [(o3, .inr (3, [.ref o7, .ref o1, .int v3_2, .int v3_3, .int v3_4, .ref a3_5, .ref a3_6, .ref a3_7, .ref a3_8, .ref a3_9, .ref a3_10, .ref a3_11, .ref a3_12, .int (r_9.1), .int (r_9.2.1), .ref a3_15, .ref a3_16])), (a3_12, .inl (cyI, n3_12, .inl r_9.2.2))]) hP hD [2, 6] [0, 1, 3, 4, 5, 7, 8] rfl rfl (by decide) (by decide) hk1 hFc hP1 hD1
            clear hz1 hk1 hPc hDc hFc hP1 hK1 hD1 ht hvm t u
            generalize H1 = H at hP hS ⊢
            have hP : va_P (dC, dI) vwCl [(o7, .inr (7, [.ref a7_0, .ref a7_1, .int v7_2])), (a7_0, .inl (cyI, 200, .inl g7_0)), (a3_5, .inl (cyI, n3_5, .inl g3_5)), (a3_8, .inl (cyI, n3_8, .inl g3_8)), (a3_9, .inl (cyI, n3_9, .inl (upd g3_9 (Int32.toNatClampNeg l1) v5_5))), (o5, .inr (5, [.ref o7, .ref a5_1, .int v5_2, .int v5_3, .int v5_4, .int v5_5, .int v5_6, .int v5_7, .int v5_8, .int v5_9])), (a5_1, .inl (cyI, 400, .inl g5_1)), (o3, .inr (3, [.ref o7, .ref o1, .int v3_2, .int v3_3, .int v3_4, .ref a3_5, .ref a3_6, .ref a3_7, .ref a3_8, .ref a3_9, .ref a3_10, .ref a3_11, .ref a3_12, .int (r_9.1), .int (r_9.2.1), .ref a3_15, .ref a3_16])), (a3_12, .inl (cyI, n3_12, .inl r_9.2.2))] H := hP
            have hD : va_D A [(o7, .inr (7, [.ref a7_0, .ref a7_1, .int v7_2])), (a7_0, .inl (cyI, 200, .inl g7_0)), (a3_5, .inl (cyI, n3_5, .inl g3_5)), (a3_8, .inl (cyI, n3_8, .inl g3_8)), (a3_9, .inl (cyI, n3_9, .inl (upd g3_9 (Int32.toNatClampNeg l1) v5_5))), (o5, .inr (5, [.ref o7, .ref a5_1, .int v5_2, .int v5_3, .int v5_4, .int v5_5, .int v5_6, .int v5_7, .int v5_8, .int v5_9])), (a5_1, .inl (cyI, 400, .inl g5_1)), (o3, .inr (3, [.ref o7, .ref o1, .int v3_2, .int v3_3, .int v3_4, .ref a3_5, .ref a3_6, .ref a3_7, .ref a3_8, .ref a3_9, .ref a3_10, .ref a3_11, .ref a3_12, .int (r_9.1), .int (r_9.2.1), .ref a3_15, .ref a3_16])), (a3_12, .inl (cyI, n3_12, .inl r_9.2.2))] := hD
            refine lv_iconst (v := 1) hx hb dX3_join_227 (by decide) ?_
            obtain rfl := Option.some.inj hf
            have hP9 := hP.sub (ws' := [(o7, .inr (7, [.ref a7_0, .ref a7_1, .int v7_2])), (a7_0, .inl (cyI, 200, .inl g7_0)), (o3, .inr (3, [.ref o7, .ref o1, .int v3_2, .int v3_3, .int v3_4, .ref a3_5, .ref a3_6, .ref a3_7, .ref a3_8, .ref a3_9, .ref a3_10, .ref a3_11, .ref a3_12, .int (r_9.1), .int (r_9.2.1), .ref a3_15, .ref a3_16])), (a3_5, .inl (cyI, n3_5, .inl g3_5)), (a3_8, .inl (cyI, n3_8, .inl g3_8)), (a3_9, .inl (cyI, n3_9, .inl (upd g3_9 (Int32.toNatClampNeg l1) v5_5))), (a3_12, .inl (cyI, n3_12, .inl r_9.2.2)), (o5, .inr (5, [.ref o7, .ref a5_1, .int v5_2, .int v5_3, .int v5_4, .int v5_5, .int v5_6, .int v5_7, .int v5_8, .int v5_9])), (a5_1, .inl (cyI, 400, .inl g5_1))]) [0, 1, 7, 2, 3, 4, 8, 5, 6] rfl
            have hD9 := hD.sub (ws' := [(o7, .inr (7, [.ref a7_0, .ref a7_1, .int v7_2])), (a7_0, .inl (cyI, 200, .inl g7_0)), (o3, .inr (3, [.ref o7, .ref o1, .int v3_2, .int v3_3, .int v3_4, .ref a3_5, .ref a3_6, .ref a3_7, .ref a3_8, .ref a3_9, .ref a3_10, .ref a3_11, .ref a3_12, .int (r_9.1), .int (r_9.2.1), .ref a3_15, .ref a3_16])), (a3_5, .inl (cyI, n3_5, .inl g3_5)), (a3_8, .inl (cyI, n3_8, .inl g3_8)), (a3_9, .inl (cyI, n3_9, .inl (upd g3_9 (Int32.toNatClampNeg l1) v5_5))), (a3_12, .inl (cyI, n3_12, .inl r_9.2.2)), (o5, .inr (5, [.ref o7, .ref a5_1, .int v5_2, .int v5_3, .int v5_4, .int v5_5, .int v5_6, .int v5_7, .int v5_8, .int v5_9])), (a5_1, .inl (cyI, 400, .inl g5_1))]) [0, 1, 7, 2, 3, 4, 8, 5, 6] (by decide) rfl
            exact W.zret (ty := .boolean) hx hb hr rfl (fun t ht hW => ⟨⟨_, (), rfl, ⟨rfl, rfl⟩, by rw [ht]; exact hP9, va_K.moved hW.alike hK, hD9⟩, hS.F ht⟩) hS.2.2 dX3_join_228
      · replace hf := x_in c_1 hf
        refine lv_aload_n hx hb dX3_join_59 rfl (lv_at hl 0 rfl) ?_
        refine va_get (D := (dC, dI)) (ci := 3) (v := .ref a3_5) (C := RX3) (T := TX3) (N := 17) hx hb hts i_X3_join_X3 hown hK hP 2 rfl rfl 5 (by decide) k_2 (fun _ h9 => h9) rfl dX3_join_60 ?_
        refine lv_iload hx hb dX3_join_63 (lv_at hl 4 rfl) ?_
        refine lv_iload hx hb dX3_join_65 (lv_at hl 5 rfl) ?_
        refine lv_iadd hx hb dX3_join_67 ?_
        obtain ⟨g_10, hf⟩ := x_gu hf
        refine va_iald hx hb hK hP 3 0 rfl rfl (x_gdin g_10) dX3_join_68 ?_
        refine lv_istore (lv' := [(6, .int (g3_5 (Int32.toNatClampNeg (l4 + l5)))), (0, .ref o3), (1, .int l1), (2, .ref o5), (3, .int l3), (4, .int l4), (5, .int l5)]) hx hb dX3_join_69 hl (by decide) rfl (fun ls hl => ?_)
        refine lv_iload hx hb dX3_join_71 (lv_at hl 0 rfl) ?_
        refine lv_aload_n hx hb dX3_join_73 rfl (lv_at hl 3 rfl) ?_
        refine va_getN (D := (dC, dI)) (ci := 5) (v := .ref a5_1) (C := RX5) (T := TX5) (N := 10) hx hb hts i_X3_join_X5 hown hK hP 7 rfl rfl 1 (by decide) ((hN.1 ("FlowJudge$Frames", 86, "FlowJudge$Places", "cells", "[I") (List.mem_of_getElem? (i := 33) rfl)).use rfl) (fun _ h9 => h9) rfl dX3_join_74 ?_
        refine lv_iload hx hb dX3_join_77 (lv_at hl 6 rfl) ?_
        obtain ⟨g_11, hf⟩ := x_gu hf
        refine va_iald hx hb hK hP 8 0 rfl rfl (x_gdin g_11) dX3_join_79 ?_
        refine lv_icmp_ne (tgt := 93) hx hb dX3_join_80 (by decide) (fun c_12 => ?_) (fun c_12 => ?_)
        · replace hf := x_in c_12 hf
          refine lv_aload_n hx hb dX3_join_93 rfl (lv_at hl 1 rfl) ?_
          refine va_get (D := (dC, dI)) (ci := 3) (v := .ref o7) (C := RX3) (T := TX3) (N := 17) hx hb hts i_X3_join_X3 hown hK hP 2 rfl rfl 0 (by decide) k_3 (fun _ h9 => h9) rfl dX3_join_94 ?_
          refine lv_iload hx hb dX3_join_97 (lv_at hl 0 rfl) ?_
          refine lv_aload_n hx hb dX3_join_99 rfl (lv_at hl 3 rfl) ?_
          refine va_getN (D := (dC, dI)) (ci := 5) (v := .ref a5_1) (C := RX5) (T := TX5) (N := 10) hx hb hts i_X3_join_X5 hown hK hP 7 rfl rfl 1 (by decide) ((hN.1 ("FlowJudge$Frames", 86, "FlowJudge$Places", "cells", "[I") (List.mem_of_getElem? (i := 33) rfl)).use rfl) (fun _ h9 => h9) rfl dX3_join_100 ?_
          refine lv_iload hx hb dX3_join_103 (lv_at hl 6 rfl) ?_
          obtain ⟨g_13, hf⟩ := x_gu hf
          refine va_iald hx hb hK hP 8 0 rfl rfl (x_gdin g_13) dX3_join_105 ?_
          obtain ⟨r_14, h_14, hf⟩ := x_bi hf
          have hPc := hP.sub (ws' := [(o7, .inr (7, [.ref a7_0, .ref a7_1, .int v7_2])), (a7_0, .inl (cyI, 200, .inl g7_0))]) [0, 1] rfl
          refine va_calli (va_runV (As := [.int (g3_5 (Int32.toNatClampNeg (l4 + l5))), .int (g5_1 (Int32.toNatClampNeg l5))]) (rest := []) ⟨hx, hb, hml, hown, hts⟩ (c_X7_meet l dC dI cyI cyZ cyJ H.size o7 a7_0 a7_1 v7_2 g7_0 (g3_5 (Int32.toNatClampNeg (l4 + l5))) (g5_1 (Int32.toNatClampNeg l5)) r_14 h_14) (cwV 2 hts gX3_join_X7_meet rfl rfl rfl (by decide +kernel) ⟨Nat.le_of_ble_eq_true rfl, Nat.le_of_ble_eq_true rfl⟩) (x_pV hN hK hPc (ci := 7) (q0 := 0) rfl rfl) rfl rfl hl.1 rfl (lv_room (Nat.le_of_ble_eq_true rfl)) dX3_join_106 ⟨Nat.le_of_ble_eq_true rfl, Nat.le_of_ble_eq_true rfl⟩) hS x_nA (x_nf hA hS) (fun q_14 u t H1 locs ht hvm hw hB hz1 hk1 hS => ?_)
          have hP := x_kp hP hk1
          clear ht hvm hB hz1 hk1 t u hPc
          generalize H1 = H at hP hS ⊢
          obtain rfl := hw.symm
          refine lv_istore (lv' := [(7, .int r_14), (6, .int (g3_5 (Int32.toNatClampNeg (l4 + l5)))), (0, .ref o3), (1, .int l1), (2, .ref o5), (3, .int l3), (4, .int l4), (5, .int l5)]) hx hb dX3_join_109 hl (by decide) rfl (fun ls hl => ?_)
          refine lv_iload hx hb dX3_join_111 (lv_at hl 0 rfl) ?_
          refine lv_bipush (v := 7) hx hb dX3_join_113 (by decide) ?_
          refine lv_icmp_ne (tgt := 135) hx hb dX3_join_115 (by decide) (fun c_15 => ?_) (fun c_15 => ?_)
          · replace hf := x_in c_15 hf
            refine lv_iload hx hb dX3_join_135 (lv_at hl 0 rfl) ?_
            refine lv_if_ne (tgt := 151) hx hb dX3_join_137 (by decide) (fun c_16 => ?_) (fun c_16 => ?_)
            · replace hf := x_in c_16 hf
              refine lv_iload_n hx hb dX3_join_151 rfl (lv_at hl 5 rfl) ?_
              refine lv_if_ne (tgt := 162) hx hb dX3_join_152 (by decide) (fun c_17 => ?_) (fun c_17 => ?_)
              · replace hf := x_in c_17 hf
                refine lv_iconst (v := 1) hx hb dX3_join_162 (by decide) ?_
                refine lv_goto (tgt := 167) hx hb dX3_join_163 (by decide) ?_
                refine lv_istore_n (lv' := [(3, .int 1), (7, .int r_14), (6, .int (g3_5 (Int32.toNatClampNeg (l4 + l5)))), (0, .ref o3), (1, .int l1), (2, .ref o5), (4, .int l4), (5, .int l5)]) hx hb dX3_join_167 rfl hl (by decide) rfl (fun ls hl => ?_)
                refine lv_aload_n hx hb dX3_join_168 rfl (lv_at hl 3 rfl) ?_
                refine va_get (D := (dC, dI)) (ci := 3) (v := .ref a3_5) (C := RX3) (T := TX3) (N := 17) hx hb hts i_X3_join_X3 hown hK hP 2 rfl rfl 5 (by decide) k_2 (fun _ h9 => h9) rfl dX3_join_169 ?_
                refine lv_iload hx hb dX3_join_172 (lv_at hl 6 rfl) ?_
                refine lv_iload hx hb dX3_join_174 (lv_at hl 7 rfl) ?_
                refine lv_iadd hx hb dX3_join_176 ?_
                refine lv_iload hx hb dX3_join_177 (lv_at hl 1 rfl) ?_
                obtain ⟨g_18, hf⟩ := x_gu hf
                refine va_iast hx hb hK hP hD hS 3 0 rfl rfl (x_gdin g_18) dX3_join_179 (fun H locs hP hD hS => ?_)
                have hP : va_P (dC, dI) vwCl [(o7, .inr (7, [.ref a7_0, .ref a7_1, .int v7_2])), (a7_0, .inl (cyI, 200, .inl g7_0)), (o3, .inr (3, [.ref o7, .ref o1, .int v3_2, .int v3_3, .int v3_4, .ref a3_5, .ref a3_6, .ref a3_7, .ref a3_8, .ref a3_9, .ref a3_10, .ref a3_11, .ref a3_12, .int v3_13, .int v3_14, .ref a3_15, .ref a3_16])), (a3_5, .inl (cyI, n3_5, .inl (upd g3_5 (Int32.toNatClampNeg (l4 + l5)) r_14))), (a3_8, .inl (cyI, n3_8, .inl g3_8)), (a3_9, .inl (cyI, n3_9, .inl g3_9)), (a3_12, .inl (cyI, n3_12, .inl g3_12)), (o5, .inr (5, [.ref o7, .ref a5_1, .int v5_2, .int v5_3, .int v5_4, .int v5_5, .int v5_6, .int v5_7, .int v5_8, .int v5_9])), (a5_1, .inl (cyI, 400, .inl g5_1))] H := hP
                have hD : va_D A [(o7, .inr (7, [.ref a7_0, .ref a7_1, .int v7_2])), (a7_0, .inl (cyI, 200, .inl g7_0)), (o3, .inr (3, [.ref o7, .ref o1, .int v3_2, .int v3_3, .int v3_4, .ref a3_5, .ref a3_6, .ref a3_7, .ref a3_8, .ref a3_9, .ref a3_10, .ref a3_11, .ref a3_12, .int v3_13, .int v3_14, .ref a3_15, .ref a3_16])), (a3_5, .inl (cyI, n3_5, .inl (upd g3_5 (Int32.toNatClampNeg (l4 + l5)) r_14))), (a3_8, .inl (cyI, n3_8, .inl g3_8)), (a3_9, .inl (cyI, n3_9, .inl g3_9)), (a3_12, .inl (cyI, n3_12, .inl g3_12)), (o5, .inr (5, [.ref o7, .ref a5_1, .int v5_2, .int v5_3, .int v5_4, .int v5_5, .int v5_6, .int v5_7, .int v5_8, .int v5_9])), (a5_1, .inl (cyI, 400, .inl g5_1))] := hD
                refine lv_iinc (v := (l5 + 1)) (lv' := [(5, .int (l5 + 1)), (3, .int 1), (7, .int r_14), (6, .int (g3_5 (Int32.toNatClampNeg (l4 + l5)))), (0, .ref o3), (1, .int l1), (2, .ref o5), (4, .int l4)]) hx hb dX3_join_180 hl (k := 7) rfl rfl (by decide) rfl (fun ls hl => ?_)
                refine lv_goto (tgt := 50) hx hb dX3_join_183 (by decide) ?_
                exact (hWW _ _ _ _ _).mpr ((ih (0, 1, l5 + 1, upd g3_5 (Int32.toNatClampNeg (l4 + l5)) r_14) _ hf rfl _ _ _ _ rfl) rfl H locs ls hP hD hS (lv_sub hl [4, 5, 6, 1, 7, 0] rfl))
              · replace hf := x_ip c_17 hf
                refine lv_iload hx hb dX3_join_155 (lv_at hl 0 rfl) ?_
                refine lv_iload hx hb dX3_join_157 (lv_at hl 1 rfl) ?_
                refine lv_icmp_eq (tgt := 166) hx hb dX3_join_159 (by decide) (fun c_19 => ?_) (fun c_19 => ?_)
                · replace hf := x_ip c_19 hf
                  refine lv_iconst (v := 0) hx hb dX3_join_166 (by decide) ?_
                  refine lv_istore_n (lv' := [(3, .int 0), (7, .int r_14), (6, .int (g3_5 (Int32.toNatClampNeg (l4 + l5)))), (0, .ref o3), (1, .int l1), (2, .ref o5), (4, .int l4), (5, .int l5)]) hx hb dX3_join_167 rfl hl (by decide) rfl (fun ls hl => ?_)
                  refine lv_aload_n hx hb dX3_join_168 rfl (lv_at hl 3 rfl) ?_
                  refine va_get (D := (dC, dI)) (ci := 3) (v := .ref a3_5) (C := RX3) (T := TX3) (N := 17) hx hb hts i_X3_join_X3 hown hK hP 2 rfl rfl 5 (by decide) k_2 (fun _ h9 => h9) rfl dX3_join_169 ?_
                  refine lv_iload hx hb dX3_join_172 (lv_at hl 6 rfl) ?_
                  refine lv_iload hx hb dX3_join_174 (lv_at hl 7 rfl) ?_
                  refine lv_iadd hx hb dX3_join_176 ?_
                  refine lv_iload hx hb dX3_join_177 (lv_at hl 1 rfl) ?_
                  obtain ⟨g_20, hf⟩ := x_gu hf
                  refine va_iast hx hb hK hP hD hS 3 0 rfl rfl (x_gdin g_20) dX3_join_179 (fun H locs hP hD hS => ?_)
                  have hP : va_P (dC, dI) vwCl [(o7, .inr (7, [.ref a7_0, .ref a7_1, .int v7_2])), (a7_0, .inl (cyI, 200, .inl g7_0)), (o3, .inr (3, [.ref o7, .ref o1, .int v3_2, .int v3_3, .int v3_4, .ref a3_5, .ref a3_6, .ref a3_7, .ref a3_8, .ref a3_9, .ref a3_10, .ref a3_11, .ref a3_12, .int v3_13, .int v3_14, .ref a3_15, .ref a3_16])), (a3_5, .inl (cyI, n3_5, .inl (upd g3_5 (Int32.toNatClampNeg (l4 + l5)) r_14))), (a3_8, .inl (cyI, n3_8, .inl g3_8)), (a3_9, .inl (cyI, n3_9, .inl g3_9)), (a3_12, .inl (cyI, n3_12, .inl g3_12)), (o5, .inr (5, [.ref o7, .ref a5_1, .int v5_2, .int v5_3, .int v5_4, .int v5_5, .int v5_6, .int v5_7, .int v5_8, .int v5_9])), (a5_1, .inl (cyI, 400, .inl g5_1))] H := hP
                  have hD : va_D A [(o7, .inr (7, [.ref a7_0, .ref a7_1, .int v7_2])), (a7_0, .inl (cyI, 200, .inl g7_0)), (o3, .inr (3, [.ref o7, .ref o1, .int v3_2, .int v3_3, .int v3_4, .ref a3_5, .ref a3_6, .ref a3_7, .ref a3_8, .ref a3_9, .ref a3_10, .ref a3_11, .ref a3_12, .int v3_13, .int v3_14, .ref a3_15, .ref a3_16])), (a3_5, .inl (cyI, n3_5, .inl (upd g3_5 (Int32.toNatClampNeg (l4 + l5)) r_14))), (a3_8, .inl (cyI, n3_8, .inl g3_8)), (a3_9, .inl (cyI, n3_9, .inl g3_9)), (a3_12, .inl (cyI, n3_12, .inl g3_12)), (o5, .inr (5, [.ref o7, .ref a5_1, .int v5_2, .int v5_3, .int v5_4, .int v5_5, .int v5_6, .int v5_7, .int v5_8, .int v5_9])), (a5_1, .inl (cyI, 400, .inl g5_1))] := hD
                  refine lv_iinc (v := (l5 + 1)) (lv' := [(5, .int (l5 + 1)), (3, .int 0), (7, .int r_14), (6, .int (g3_5 (Int32.toNatClampNeg (l4 + l5)))), (0, .ref o3), (1, .int l1), (2, .ref o5), (4, .int l4)]) hx hb dX3_join_180 hl (k := 7) rfl rfl (by decide) rfl (fun ls hl => ?_)
                  refine lv_goto (tgt := 50) hx hb dX3_join_183 (by decide) ?_
                  exact (hWW _ _ _ _ _).mpr ((ih (0, 0, l5 + 1, upd g3_5 (Int32.toNatClampNeg (l4 + l5)) r_14) _ hf rfl _ _ _ _ rfl) rfl H locs ls hP hD hS (lv_sub hl [4, 5, 6, 1, 7, 0] rfl))
                · replace hf := x_in c_19 hf
                  refine lv_iconst (v := 1) hx hb dX3_join_162 (by decide) ?_
                  refine lv_goto (tgt := 167) hx hb dX3_join_163 (by decide) ?_
                  refine lv_istore_n (lv' := [(3, .int 1), (7, .int r_14), (6, .int (g3_5 (Int32.toNatClampNeg (l4 + l5)))), (0, .ref o3), (1, .int l1), (2, .ref o5), (4, .int l4), (5, .int l5)]) hx hb dX3_join_167 rfl hl (by decide) rfl (fun ls hl => ?_)
                  refine lv_aload_n hx hb dX3_join_168 rfl (lv_at hl 3 rfl) ?_
                  refine va_get (D := (dC, dI)) (ci := 3) (v := .ref a3_5) (C := RX3) (T := TX3) (N := 17) hx hb hts i_X3_join_X3 hown hK hP 2 rfl rfl 5 (by decide) k_2 (fun _ h9 => h9) rfl dX3_join_169 ?_
                  refine lv_iload hx hb dX3_join_172 (lv_at hl 6 rfl) ?_
                  refine lv_iload hx hb dX3_join_174 (lv_at hl 7 rfl) ?_
                  refine lv_iadd hx hb dX3_join_176 ?_
                  refine lv_iload hx hb dX3_join_177 (lv_at hl 1 rfl) ?_
                  obtain ⟨g_21, hf⟩ := x_gu hf
                  refine va_iast hx hb hK hP hD hS 3 0 rfl rfl (x_gdin g_21) dX3_join_179 (fun H locs hP hD hS => ?_)
                  have hP : va_P (dC, dI) vwCl [(o7, .inr (7, [.ref a7_0, .ref a7_1, .int v7_2])), (a7_0, .inl (cyI, 200, .inl g7_0)), (o3, .inr (3, [.ref o7, .ref o1, .int v3_2, .int v3_3, .int v3_4, .ref a3_5, .ref a3_6, .ref a3_7, .ref a3_8, .ref a3_9, .ref a3_10, .ref a3_11, .ref a3_12, .int v3_13, .int v3_14, .ref a3_15, .ref a3_16])), (a3_5, .inl (cyI, n3_5, .inl (upd g3_5 (Int32.toNatClampNeg (l4 + l5)) r_14))), (a3_8, .inl (cyI, n3_8, .inl g3_8)), (a3_9, .inl (cyI, n3_9, .inl g3_9)), (a3_12, .inl (cyI, n3_12, .inl g3_12)), (o5, .inr (5, [.ref o7, .ref a5_1, .int v5_2, .int v5_3, .int v5_4, .int v5_5, .int v5_6, .int v5_7, .int v5_8, .int v5_9])), (a5_1, .inl (cyI, 400, .inl g5_1))] H := hP
                  have hD : va_D A [(o7, .inr (7, [.ref a7_0, .ref a7_1, .int v7_2])), (a7_0, .inl (cyI, 200, .inl g7_0)), (o3, .inr (3, [.ref o7, .ref o1, .int v3_2, .int v3_3, .int v3_4, .ref a3_5, .ref a3_6, .ref a3_7, .ref a3_8, .ref a3_9, .ref a3_10, .ref a3_11, .ref a3_12, .int v3_13, .int v3_14, .ref a3_15, .ref a3_16])), (a3_5, .inl (cyI, n3_5, .inl (upd g3_5 (Int32.toNatClampNeg (l4 + l5)) r_14))), (a3_8, .inl (cyI, n3_8, .inl g3_8)), (a3_9, .inl (cyI, n3_9, .inl g3_9)), (a3_12, .inl (cyI, n3_12, .inl g3_12)), (o5, .inr (5, [.ref o7, .ref a5_1, .int v5_2, .int v5_3, .int v5_4, .int v5_5, .int v5_6, .int v5_7, .int v5_8, .int v5_9])), (a5_1, .inl (cyI, 400, .inl g5_1))] := hD
                  refine lv_iinc (v := (l5 + 1)) (lv' := [(5, .int (l5 + 1)), (3, .int 1), (7, .int r_14), (6, .int (g3_5 (Int32.toNatClampNeg (l4 + l5)))), (0, .ref o3), (1, .int l1), (2, .ref o5), (4, .int l4)]) hx hb dX3_join_180 hl (k := 7) rfl rfl (by decide) rfl (fun ls hl => ?_)
                  refine lv_goto (tgt := 50) hx hb dX3_join_183 (by decide) ?_
                  exact (hWW _ _ _ _ _).mpr ((ih (0, 1, l5 + 1, upd g3_5 (Int32.toNatClampNeg (l4 + l5)) r_14) _ hf rfl _ _ _ _ rfl) rfl H locs ls hP hD hS (lv_sub hl [4, 5, 6, 1, 7, 0] rfl))
            · replace hf := x_ip c_16 hf
              refine lv_iload hx hb dX3_join_140 (lv_at hl 7 rfl) ?_
              refine lv_aload_n hx hb dX3_join_142 rfl (lv_at hl 2 rfl) ?_
              refine va_get (D := (dC, dI)) (ci := 3) (v := .int v3_2) (C := RX3) (T := TX3) (N := 17) hx hb hts i_X3_join_X3 hown hK hP 2 rfl rfl 2 (by decide) k_4 (fun _ h9 => h9) rfl dX3_join_143 ?_
              refine lv_icmp_lt (tgt := 151) hx hb dX3_join_146 (by decide) (fun c_22 => ?_) (fun c_22 => ?_)
              · replace hf := x_ip c_22 hf
                refine lv_iload_n hx hb dX3_join_151 rfl (lv_at hl 5 rfl) ?_
                refine lv_if_ne (tgt := 162) hx hb dX3_join_152 (by decide) (fun c_23 => ?_) (fun c_23 => ?_)
                · replace hf := x_in c_23 hf
                  refine lv_iconst (v := 1) hx hb dX3_join_162 (by decide) ?_
                  refine lv_goto (tgt := 167) hx hb dX3_join_163 (by decide) ?_
                  refine lv_istore_n (lv' := [(3, .int 1), (7, .int r_14), (6, .int (g3_5 (Int32.toNatClampNeg (l4 + l5)))), (0, .ref o3), (1, .int l1), (2, .ref o5), (4, .int l4), (5, .int l5)]) hx hb dX3_join_167 rfl hl (by decide) rfl (fun ls hl => ?_)
                  refine lv_aload_n hx hb dX3_join_168 rfl (lv_at hl 3 rfl) ?_
                  refine va_get (D := (dC, dI)) (ci := 3) (v := .ref a3_5) (C := RX3) (T := TX3) (N := 17) hx hb hts i_X3_join_X3 hown hK hP 2 rfl rfl 5 (by decide) k_2 (fun _ h9 => h9) rfl dX3_join_169 ?_
                  refine lv_iload hx hb dX3_join_172 (lv_at hl 6 rfl) ?_
                  refine lv_iload hx hb dX3_join_174 (lv_at hl 7 rfl) ?_
                  refine lv_iadd hx hb dX3_join_176 ?_
                  refine lv_iload hx hb dX3_join_177 (lv_at hl 1 rfl) ?_
                  obtain ⟨g_24, hf⟩ := x_gu hf
                  refine va_iast hx hb hK hP hD hS 3 0 rfl rfl (x_gdin g_24) dX3_join_179 (fun H locs hP hD hS => ?_)
                  have hP : va_P (dC, dI) vwCl [(o7, .inr (7, [.ref a7_0, .ref a7_1, .int v7_2])), (a7_0, .inl (cyI, 200, .inl g7_0)), (o3, .inr (3, [.ref o7, .ref o1, .int v3_2, .int v3_3, .int v3_4, .ref a3_5, .ref a3_6, .ref a3_7, .ref a3_8, .ref a3_9, .ref a3_10, .ref a3_11, .ref a3_12, .int v3_13, .int v3_14, .ref a3_15, .ref a3_16])), (a3_5, .inl (cyI, n3_5, .inl (upd g3_5 (Int32.toNatClampNeg (l4 + l5)) r_14))), (a3_8, .inl (cyI, n3_8, .inl g3_8)), (a3_9, .inl (cyI, n3_9, .inl g3_9)), (a3_12, .inl (cyI, n3_12, .inl g3_12)), (o5, .inr (5, [.ref o7, .ref a5_1, .int v5_2, .int v5_3, .int v5_4, .int v5_5, .int v5_6, .int v5_7, .int v5_8, .int v5_9])), (a5_1, .inl (cyI, 400, .inl g5_1))] H := hP
                  have hD : va_D A [(o7, .inr (7, [.ref a7_0, .ref a7_1, .int v7_2])), (a7_0, .inl (cyI, 200, .inl g7_0)), (o3, .inr (3, [.ref o7, .ref o1, .int v3_2, .int v3_3, .int v3_4, .ref a3_5, .ref a3_6, .ref a3_7, .ref a3_8, .ref a3_9, .ref a3_10, .ref a3_11, .ref a3_12, .int v3_13, .int v3_14, .ref a3_15, .ref a3_16])), (a3_5, .inl (cyI, n3_5, .inl (upd g3_5 (Int32.toNatClampNeg (l4 + l5)) r_14))), (a3_8, .inl (cyI, n3_8, .inl g3_8)), (a3_9, .inl (cyI, n3_9, .inl g3_9)), (a3_12, .inl (cyI, n3_12, .inl g3_12)), (o5, .inr (5, [.ref o7, .ref a5_1, .int v5_2, .int v5_3, .int v5_4, .int v5_5, .int v5_6, .int v5_7, .int v5_8, .int v5_9])), (a5_1, .inl (cyI, 400, .inl g5_1))] := hD
                  refine lv_iinc (v := (l5 + 1)) (lv' := [(5, .int (l5 + 1)), (3, .int 1), (7, .int r_14), (6, .int (g3_5 (Int32.toNatClampNeg (l4 + l5)))), (0, .ref o3), (1, .int l1), (2, .ref o5), (4, .int l4)]) hx hb dX3_join_180 hl (k := 7) rfl rfl (by decide) rfl (fun ls hl => ?_)
                  refine lv_goto (tgt := 50) hx hb dX3_join_183 (by decide) ?_
                  exact (hWW _ _ _ _ _).mpr ((ih (0, 1, l5 + 1, upd g3_5 (Int32.toNatClampNeg (l4 + l5)) r_14) _ hf rfl _ _ _ _ rfl) rfl H locs ls hP hD hS (lv_sub hl [4, 5, 6, 1, 7, 0] rfl))
                · replace hf := x_ip c_23 hf
                  refine lv_iload hx hb dX3_join_155 (lv_at hl 0 rfl) ?_
                  refine lv_iload hx hb dX3_join_157 (lv_at hl 1 rfl) ?_
                  refine lv_icmp_eq (tgt := 166) hx hb dX3_join_159 (by decide) (fun c_25 => ?_) (fun c_25 => ?_)
                  · replace hf := x_ip c_25 hf
                    refine lv_iconst (v := 0) hx hb dX3_join_166 (by decide) ?_
                    refine lv_istore_n (lv' := [(3, .int 0), (7, .int r_14), (6, .int (g3_5 (Int32.toNatClampNeg (l4 + l5)))), (0, .ref o3), (1, .int l1), (2, .ref o5), (4, .int l4), (5, .int l5)]) hx hb dX3_join_167 rfl hl (by decide) rfl (fun ls hl => ?_)
                    refine lv_aload_n hx hb dX3_join_168 rfl (lv_at hl 3 rfl) ?_
                    refine va_get (D := (dC, dI)) (ci := 3) (v := .ref a3_5) (C := RX3) (T := TX3) (N := 17) hx hb hts i_X3_join_X3 hown hK hP 2 rfl rfl 5 (by decide) k_2 (fun _ h9 => h9) rfl dX3_join_169 ?_
                    refine lv_iload hx hb dX3_join_172 (lv_at hl 6 rfl) ?_
                    refine lv_iload hx hb dX3_join_174 (lv_at hl 7 rfl) ?_
                    refine lv_iadd hx hb dX3_join_176 ?_
                    refine lv_iload hx hb dX3_join_177 (lv_at hl 1 rfl) ?_
                    obtain ⟨g_26, hf⟩ := x_gu hf
                    refine va_iast hx hb hK hP hD hS 3 0 rfl rfl (x_gdin g_26) dX3_join_179 (fun H locs hP hD hS => ?_)
                    have hP : va_P (dC, dI) vwCl [(o7, .inr (7, [.ref a7_0, .ref a7_1, .int v7_2])), (a7_0, .inl (cyI, 200, .inl g7_0)), (o3, .inr (3, [.ref o7, .ref o1, .int v3_2, .int v3_3, .int v3_4, .ref a3_5, .ref a3_6, .ref a3_7, .ref a3_8, .ref a3_9, .ref a3_10, .ref a3_11, .ref a3_12, .int v3_13, .int v3_14, .ref a3_15, .ref a3_16])), (a3_5, .inl (cyI, n3_5, .inl (upd g3_5 (Int32.toNatClampNeg (l4 + l5)) r_14))), (a3_8, .inl (cyI, n3_8, .inl g3_8)), (a3_9, .inl (cyI, n3_9, .inl g3_9)), (a3_12, .inl (cyI, n3_12, .inl g3_12)), (o5, .inr (5, [.ref o7, .ref a5_1, .int v5_2, .int v5_3, .int v5_4, .int v5_5, .int v5_6, .int v5_7, .int v5_8, .int v5_9])), (a5_1, .inl (cyI, 400, .inl g5_1))] H := hP
                    have hD : va_D A [(o7, .inr (7, [.ref a7_0, .ref a7_1, .int v7_2])), (a7_0, .inl (cyI, 200, .inl g7_0)), (o3, .inr (3, [.ref o7, .ref o1, .int v3_2, .int v3_3, .int v3_4, .ref a3_5, .ref a3_6, .ref a3_7, .ref a3_8, .ref a3_9, .ref a3_10, .ref a3_11, .ref a3_12, .int v3_13, .int v3_14, .ref a3_15, .ref a3_16])), (a3_5, .inl (cyI, n3_5, .inl (upd g3_5 (Int32.toNatClampNeg (l4 + l5)) r_14))), (a3_8, .inl (cyI, n3_8, .inl g3_8)), (a3_9, .inl (cyI, n3_9, .inl g3_9)), (a3_12, .inl (cyI, n3_12, .inl g3_12)), (o5, .inr (5, [.ref o7, .ref a5_1, .int v5_2, .int v5_3, .int v5_4, .int v5_5, .int v5_6, .int v5_7, .int v5_8, .int v5_9])), (a5_1, .inl (cyI, 400, .inl g5_1))] := hD
                    refine lv_iinc (v := (l5 + 1)) (lv' := [(5, .int (l5 + 1)), (3, .int 0), (7, .int r_14), (6, .int (g3_5 (Int32.toNatClampNeg (l4 + l5)))), (0, .ref o3), (1, .int l1), (2, .ref o5), (4, .int l4)]) hx hb dX3_join_180 hl (k := 7) rfl rfl (by decide) rfl (fun ls hl => ?_)
                    refine lv_goto (tgt := 50) hx hb dX3_join_183 (by decide) ?_
                    exact (hWW _ _ _ _ _).mpr ((ih (0, 0, l5 + 1, upd g3_5 (Int32.toNatClampNeg (l4 + l5)) r_14) _ hf rfl _ _ _ _ rfl) rfl H locs ls hP hD hS (lv_sub hl [4, 5, 6, 1, 7, 0] rfl))
                  · replace hf := x_in c_25 hf
                    refine lv_iconst (v := 1) hx hb dX3_join_162 (by decide) ?_
                    refine lv_goto (tgt := 167) hx hb dX3_join_163 (by decide) ?_
                    refine lv_istore_n (lv' := [(3, .int 1), (7, .int r_14), (6, .int (g3_5 (Int32.toNatClampNeg (l4 + l5)))), (0, .ref o3), (1, .int l1), (2, .ref o5), (4, .int l4), (5, .int l5)]) hx hb dX3_join_167 rfl hl (by decide) rfl (fun ls hl => ?_)
                    refine lv_aload_n hx hb dX3_join_168 rfl (lv_at hl 3 rfl) ?_
                    refine va_get (D := (dC, dI)) (ci := 3) (v := .ref a3_5) (C := RX3) (T := TX3) (N := 17) hx hb hts i_X3_join_X3 hown hK hP 2 rfl rfl 5 (by decide) k_2 (fun _ h9 => h9) rfl dX3_join_169 ?_
                    refine lv_iload hx hb dX3_join_172 (lv_at hl 6 rfl) ?_
                    refine lv_iload hx hb dX3_join_174 (lv_at hl 7 rfl) ?_
                    refine lv_iadd hx hb dX3_join_176 ?_
                    refine lv_iload hx hb dX3_join_177 (lv_at hl 1 rfl) ?_
                    obtain ⟨g_27, hf⟩ := x_gu hf
                    refine va_iast hx hb hK hP hD hS 3 0 rfl rfl (x_gdin g_27) dX3_join_179 (fun H locs hP hD hS => ?_)
                    have hP : va_P (dC, dI) vwCl [(o7, .inr (7, [.ref a7_0, .ref a7_1, .int v7_2])), (a7_0, .inl (cyI, 200, .inl g7_0)), (o3, .inr (3, [.ref o7, .ref o1, .int v3_2, .int v3_3, .int v3_4, .ref a3_5, .ref a3_6, .ref a3_7, .ref a3_8, .ref a3_9, .ref a3_10, .ref a3_11, .ref a3_12, .int v3_13, .int v3_14, .ref a3_15, .ref a3_16])), (a3_5, .inl (cyI, n3_5, .inl (upd g3_5 (Int32.toNatClampNeg (l4 + l5)) r_14))), (a3_8, .inl (cyI, n3_8, .inl g3_8)), (a3_9, .inl (cyI, n3_9, .inl g3_9)), (a3_12, .inl (cyI, n3_12, .inl g3_12)), (o5, .inr (5, [.ref o7, .ref a5_1, .int v5_2, .int v5_3, .int v5_4, .int v5_5, .int v5_6, .int v5_7, .int v5_8, .int v5_9])), (a5_1, .inl (cyI, 400, .inl g5_1))] H := hP
                    have hD : va_D A [(o7, .inr (7, [.ref a7_0, .ref a7_1, .int v7_2])), (a7_0, .inl (cyI, 200, .inl g7_0)), (o3, .inr (3, [.ref o7, .ref o1, .int v3_2, .int v3_3, .int v3_4, .ref a3_5, .ref a3_6, .ref a3_7, .ref a3_8, .ref a3_9, .ref a3_10, .ref a3_11, .ref a3_12, .int v3_13, .int v3_14, .ref a3_15, .ref a3_16])), (a3_5, .inl (cyI, n3_5, .inl (upd g3_5 (Int32.toNatClampNeg (l4 + l5)) r_14))), (a3_8, .inl (cyI, n3_8, .inl g3_8)), (a3_9, .inl (cyI, n3_9, .inl g3_9)), (a3_12, .inl (cyI, n3_12, .inl g3_12)), (o5, .inr (5, [.ref o7, .ref a5_1, .int v5_2, .int v5_3, .int v5_4, .int v5_5, .int v5_6, .int v5_7, .int v5_8, .int v5_9])), (a5_1, .inl (cyI, 400, .inl g5_1))] := hD
                    refine lv_iinc (v := (l5 + 1)) (lv' := [(5, .int (l5 + 1)), (3, .int 1), (7, .int r_14), (6, .int (g3_5 (Int32.toNatClampNeg (l4 + l5)))), (0, .ref o3), (1, .int l1), (2, .ref o5), (4, .int l4)]) hx hb dX3_join_180 hl (k := 7) rfl rfl (by decide) rfl (fun ls hl => ?_)
                    refine lv_goto (tgt := 50) hx hb dX3_join_183 (by decide) ?_
                    exact (hWW _ _ _ _ _).mpr ((ih (0, 1, l5 + 1, upd g3_5 (Int32.toNatClampNeg (l4 + l5)) r_14) _ hf rfl _ _ _ _ rfl) rfl H locs ls hP hD hS (lv_sub hl [4, 5, 6, 1, 7, 0] rfl))
              · replace hf := x_in c_22 hf
                refine lv_iconst (v := 0) hx hb dX3_join_149 (by decide) ?_
                obtain rfl := Option.some.inj hf
                have hP9 := hP.sub (ws' := [(o7, .inr (7, [.ref a7_0, .ref a7_1, .int v7_2])), (a7_0, .inl (cyI, 200, .inl g7_0)), (o3, .inr (3, [.ref o7, .ref o1, .int v3_2, .int v3_3, .int v3_4, .ref a3_5, .ref a3_6, .ref a3_7, .ref a3_8, .ref a3_9, .ref a3_10, .ref a3_11, .ref a3_12, .int v3_13, .int v3_14, .ref a3_15, .ref a3_16])), (a3_5, .inl (cyI, n3_5, .inl g3_5)), (a3_8, .inl (cyI, n3_8, .inl g3_8)), (a3_9, .inl (cyI, n3_9, .inl g3_9)), (a3_12, .inl (cyI, n3_12, .inl g3_12)), (o5, .inr (5, [.ref o7, .ref a5_1, .int v5_2, .int v5_3, .int v5_4, .int v5_5, .int v5_6, .int v5_7, .int v5_8, .int v5_9])), (a5_1, .inl (cyI, 400, .inl g5_1))]) [0, 1, 2, 3, 4, 5, 6, 7, 8] rfl
                have hD9 := hD.sub (ws' := [(o7, .inr (7, [.ref a7_0, .ref a7_1, .int v7_2])), (a7_0, .inl (cyI, 200, .inl g7_0)), (o3, .inr (3, [.ref o7, .ref o1, .int v3_2, .int v3_3, .int v3_4, .ref a3_5, .ref a3_6, .ref a3_7, .ref a3_8, .ref a3_9, .ref a3_10, .ref a3_11, .ref a3_12, .int v3_13, .int v3_14, .ref a3_15, .ref a3_16])), (a3_5, .inl (cyI, n3_5, .inl g3_5)), (a3_8, .inl (cyI, n3_8, .inl g3_8)), (a3_9, .inl (cyI, n3_9, .inl g3_9)), (a3_12, .inl (cyI, n3_12, .inl g3_12)), (o5, .inr (5, [.ref o7, .ref a5_1, .int v5_2, .int v5_3, .int v5_4, .int v5_5, .int v5_6, .int v5_7, .int v5_8, .int v5_9])), (a5_1, .inl (cyI, 400, .inl g5_1))]) [0, 1, 2, 3, 4, 5, 6, 7, 8] (by decide) rfl
                exact W.zret (ty := .boolean) hx hb hr rfl (fun t ht hW => ⟨⟨_, (), rfl, ⟨rfl, rfl⟩, by rw [ht]; exact hP9, va_K.moved hW.alike hK, hD9⟩, hS.F ht⟩) hS.2.2 dX3_join_150
          · replace hf := x_ip c_15 hf
            refine lv_aload_n hx hb dX3_join_118 rfl (lv_at hl 2 rfl) ?_
            refine lv_iload hx hb dX3_join_119 (lv_at hl 6 rfl) ?_
            refine lv_iload hx hb dX3_join_121 (lv_at hl 7 rfl) ?_
            refine lv_iadd hx hb dX3_join_123 ?_
            refine lv_iconst (v := 1) hx hb dX3_join_124 (by decide) ?_
            refine lv_isub hx hb dX3_join_125 ?_
            obtain ⟨r_28, h_28, hf⟩ := x_bi hf
            have hPc := hP.sub (ws' := [(o3, .inr (3, [.ref o7, .ref o1, .int v3_2, .int v3_3, .int v3_4, .ref a3_5, .ref a3_6, .ref a3_7, .ref a3_8, .ref a3_9, .ref a3_10, .ref a3_11, .ref a3_12, .int v3_13, .int v3_14, .ref a3_15, .ref a3_16])), (a3_5, .inl (cyI, n3_5, .inl g3_5))]) [2, 3] rfl
            refine va_calli (va_runV (As := [.int ((l4 + l5) - (1 : Int32))]) (rest := []) ⟨hx, hb, hml, hown, hts⟩ (c_X3_isWideAt l dC dI cyI cyZ cyJ H.size o3 o7 o1 v3_2 v3_3 v3_4 a3_5 a3_6 a3_7 a3_8 a3_9 a3_10 a3_11 a3_12 v3_13 v3_14 a3_15 a3_16 g3_5 n3_5 ((l4 + l5) - (1 : Int32)) r_28 h_28) (cwV 1 hts gX3_join_X3_isWideAt rfl rfl rfl (by decide +kernel) ⟨Nat.le_of_ble_eq_true rfl, Nat.le_of_ble_eq_true rfl⟩) (x_pV hN hK hPc (ci := 3) (q0 := 0) rfl rfl) rfl rfl hl.1 rfl (lv_room (Nat.le_of_ble_eq_true rfl)) dX3_join_126 ⟨Nat.le_of_ble_eq_true rfl, Nat.le_of_ble_eq_true rfl⟩) hS x_nA (x_nf hA hS) (fun q_28 u t H1 locs ht hvm hw hB hz1 hk1 hS => ?_)
            have hP := x_kp hP hk1
            clear ht hvm hB hz1 hk1 t u hPc
            generalize H1 = H at hP hS ⊢
            obtain ⟨hw, b_28⟩ := hw
            obtain rfl := hw.symm
            refine lv_if_ne (tgt := 135) hx hb dX3_join_129 (by decide) (fun c_29 => ?_) (fun c_29 => ?_)
            · replace hf := x_in c_29 hf
              refine lv_iload hx hb dX3_join_135 (lv_at hl 0 rfl) ?_
              refine lv_if_ne (tgt := 151) hx hb dX3_join_137 (by decide) (fun c_30 => ?_) (fun c_30 => ?_)
              · replace hf := x_in c_30 hf
                refine lv_iload_n hx hb dX3_join_151 rfl (lv_at hl 5 rfl) ?_
                refine lv_if_ne (tgt := 162) hx hb dX3_join_152 (by decide) (fun c_31 => ?_) (fun c_31 => ?_)
                · replace hf := x_in c_31 hf
                  refine lv_iconst (v := 1) hx hb dX3_join_162 (by decide) ?_
                  refine lv_goto (tgt := 167) hx hb dX3_join_163 (by decide) ?_
                  refine lv_istore_n (lv' := [(3, .int 1), (7, .int r_14), (6, .int (g3_5 (Int32.toNatClampNeg (l4 + l5)))), (0, .ref o3), (1, .int l1), (2, .ref o5), (4, .int l4), (5, .int l5)]) hx hb dX3_join_167 rfl hl (by decide) rfl (fun ls hl => ?_)
                  refine lv_aload_n hx hb dX3_join_168 rfl (lv_at hl 3 rfl) ?_
                  refine va_get (D := (dC, dI)) (ci := 3) (v := .ref a3_5) (C := RX3) (T := TX3) (N := 17) hx hb hts i_X3_join_X3 hown hK hP 2 rfl rfl 5 (by decide) k_2 (fun _ h9 => h9) rfl dX3_join_169 ?_
                  refine lv_iload hx hb dX3_join_172 (lv_at hl 6 rfl) ?_
                  refine lv_iload hx hb dX3_join_174 (lv_at hl 7 rfl) ?_
                  refine lv_iadd hx hb dX3_join_176 ?_
                  refine lv_iload hx hb dX3_join_177 (lv_at hl 1 rfl) ?_
                  obtain ⟨g_32, hf⟩ := x_gu hf
                  refine va_iast hx hb hK hP hD hS 3 0 rfl rfl (x_gdin g_32) dX3_join_179 (fun H locs hP hD hS => ?_)
                  have hP : va_P (dC, dI) vwCl [(o7, .inr (7, [.ref a7_0, .ref a7_1, .int v7_2])), (a7_0, .inl (cyI, 200, .inl g7_0)), (o3, .inr (3, [.ref o7, .ref o1, .int v3_2, .int v3_3, .int v3_4, .ref a3_5, .ref a3_6, .ref a3_7, .ref a3_8, .ref a3_9, .ref a3_10, .ref a3_11, .ref a3_12, .int v3_13, .int v3_14, .ref a3_15, .ref a3_16])), (a3_5, .inl (cyI, n3_5, .inl (upd g3_5 (Int32.toNatClampNeg (l4 + l5)) r_14))), (a3_8, .inl (cyI, n3_8, .inl g3_8)), (a3_9, .inl (cyI, n3_9, .inl g3_9)), (a3_12, .inl (cyI, n3_12, .inl g3_12)), (o5, .inr (5, [.ref o7, .ref a5_1, .int v5_2, .int v5_3, .int v5_4, .int v5_5, .int v5_6, .int v5_7, .int v5_8, .int v5_9])), (a5_1, .inl (cyI, 400, .inl g5_1))] H := hP
                  have hD : va_D A [(o7, .inr (7, [.ref a7_0, .ref a7_1, .int v7_2])), (a7_0, .inl (cyI, 200, .inl g7_0)), (o3, .inr (3, [.ref o7, .ref o1, .int v3_2, .int v3_3, .int v3_4, .ref a3_5, .ref a3_6, .ref a3_7, .ref a3_8, .ref a3_9, .ref a3_10, .ref a3_11, .ref a3_12, .int v3_13, .int v3_14, .ref a3_15, .ref a3_16])), (a3_5, .inl (cyI, n3_5, .inl (upd g3_5 (Int32.toNatClampNeg (l4 + l5)) r_14))), (a3_8, .inl (cyI, n3_8, .inl g3_8)), (a3_9, .inl (cyI, n3_9, .inl g3_9)), (a3_12, .inl (cyI, n3_12, .inl g3_12)), (o5, .inr (5, [.ref o7, .ref a5_1, .int v5_2, .int v5_3, .int v5_4, .int v5_5, .int v5_6, .int v5_7, .int v5_8, .int v5_9])), (a5_1, .inl (cyI, 400, .inl g5_1))] := hD
                  refine lv_iinc (v := (l5 + 1)) (lv' := [(5, .int (l5 + 1)), (3, .int 1), (7, .int r_14), (6, .int (g3_5 (Int32.toNatClampNeg (l4 + l5)))), (0, .ref o3), (1, .int l1), (2, .ref o5), (4, .int l4)]) hx hb dX3_join_180 hl (k := 7) rfl rfl (by decide) rfl (fun ls hl => ?_)
                  refine lv_goto (tgt := 50) hx hb dX3_join_183 (by decide) ?_
                  exact (hWW _ _ _ _ _).mpr ((ih (0, 1, l5 + 1, upd g3_5 (Int32.toNatClampNeg (l4 + l5)) r_14) _ hf rfl _ _ _ _ rfl) rfl H locs ls hP hD hS (lv_sub hl [4, 5, 6, 1, 7, 0] rfl))
                · replace hf := x_ip c_31 hf
                  refine lv_iload hx hb dX3_join_155 (lv_at hl 0 rfl) ?_
                  refine lv_iload hx hb dX3_join_157 (lv_at hl 1 rfl) ?_
                  refine lv_icmp_eq (tgt := 166) hx hb dX3_join_159 (by decide) (fun c_33 => ?_) (fun c_33 => ?_)
                  · replace hf := x_ip c_33 hf
                    refine lv_iconst (v := 0) hx hb dX3_join_166 (by decide) ?_
                    refine lv_istore_n (lv' := [(3, .int 0), (7, .int r_14), (6, .int (g3_5 (Int32.toNatClampNeg (l4 + l5)))), (0, .ref o3), (1, .int l1), (2, .ref o5), (4, .int l4), (5, .int l5)]) hx hb dX3_join_167 rfl hl (by decide) rfl (fun ls hl => ?_)
                    refine lv_aload_n hx hb dX3_join_168 rfl (lv_at hl 3 rfl) ?_
                    refine va_get (D := (dC, dI)) (ci := 3) (v := .ref a3_5) (C := RX3) (T := TX3) (N := 17) hx hb hts i_X3_join_X3 hown hK hP 2 rfl rfl 5 (by decide) k_2 (fun _ h9 => h9) rfl dX3_join_169 ?_
                    refine lv_iload hx hb dX3_join_172 (lv_at hl 6 rfl) ?_
                    refine lv_iload hx hb dX3_join_174 (lv_at hl 7 rfl) ?_
                    refine lv_iadd hx hb dX3_join_176 ?_
                    refine lv_iload hx hb dX3_join_177 (lv_at hl 1 rfl) ?_
                    obtain ⟨g_34, hf⟩ := x_gu hf
                    refine va_iast hx hb hK hP hD hS 3 0 rfl rfl (x_gdin g_34) dX3_join_179 (fun H locs hP hD hS => ?_)
                    have hP : va_P (dC, dI) vwCl [(o7, .inr (7, [.ref a7_0, .ref a7_1, .int v7_2])), (a7_0, .inl (cyI, 200, .inl g7_0)), (o3, .inr (3, [.ref o7, .ref o1, .int v3_2, .int v3_3, .int v3_4, .ref a3_5, .ref a3_6, .ref a3_7, .ref a3_8, .ref a3_9, .ref a3_10, .ref a3_11, .ref a3_12, .int v3_13, .int v3_14, .ref a3_15, .ref a3_16])), (a3_5, .inl (cyI, n3_5, .inl (upd g3_5 (Int32.toNatClampNeg (l4 + l5)) r_14))), (a3_8, .inl (cyI, n3_8, .inl g3_8)), (a3_9, .inl (cyI, n3_9, .inl g3_9)), (a3_12, .inl (cyI, n3_12, .inl g3_12)), (o5, .inr (5, [.ref o7, .ref a5_1, .int v5_2, .int v5_3, .int v5_4, .int v5_5, .int v5_6, .int v5_7, .int v5_8, .int v5_9])), (a5_1, .inl (cyI, 400, .inl g5_1))] H := hP
                    have hD : va_D A [(o7, .inr (7, [.ref a7_0, .ref a7_1, .int v7_2])), (a7_0, .inl (cyI, 200, .inl g7_0)), (o3, .inr (3, [.ref o7, .ref o1, .int v3_2, .int v3_3, .int v3_4, .ref a3_5, .ref a3_6, .ref a3_7, .ref a3_8, .ref a3_9, .ref a3_10, .ref a3_11, .ref a3_12, .int v3_13, .int v3_14, .ref a3_15, .ref a3_16])), (a3_5, .inl (cyI, n3_5, .inl (upd g3_5 (Int32.toNatClampNeg (l4 + l5)) r_14))), (a3_8, .inl (cyI, n3_8, .inl g3_8)), (a3_9, .inl (cyI, n3_9, .inl g3_9)), (a3_12, .inl (cyI, n3_12, .inl g3_12)), (o5, .inr (5, [.ref o7, .ref a5_1, .int v5_2, .int v5_3, .int v5_4, .int v5_5, .int v5_6, .int v5_7, .int v5_8, .int v5_9])), (a5_1, .inl (cyI, 400, .inl g5_1))] := hD
                    refine lv_iinc (v := (l5 + 1)) (lv' := [(5, .int (l5 + 1)), (3, .int 0), (7, .int r_14), (6, .int (g3_5 (Int32.toNatClampNeg (l4 + l5)))), (0, .ref o3), (1, .int l1), (2, .ref o5), (4, .int l4)]) hx hb dX3_join_180 hl (k := 7) rfl rfl (by decide) rfl (fun ls hl => ?_)
                    refine lv_goto (tgt := 50) hx hb dX3_join_183 (by decide) ?_
                    exact (hWW _ _ _ _ _).mpr ((ih (0, 0, l5 + 1, upd g3_5 (Int32.toNatClampNeg (l4 + l5)) r_14) _ hf rfl _ _ _ _ rfl) rfl H locs ls hP hD hS (lv_sub hl [4, 5, 6, 1, 7, 0] rfl))
                  · replace hf := x_in c_33 hf
                    refine lv_iconst (v := 1) hx hb dX3_join_162 (by decide) ?_
                    refine lv_goto (tgt := 167) hx hb dX3_join_163 (by decide) ?_
                    refine lv_istore_n (lv' := [(3, .int 1), (7, .int r_14), (6, .int (g3_5 (Int32.toNatClampNeg (l4 + l5)))), (0, .ref o3), (1, .int l1), (2, .ref o5), (4, .int l4), (5, .int l5)]) hx hb dX3_join_167 rfl hl (by decide) rfl (fun ls hl => ?_)
                    refine lv_aload_n hx hb dX3_join_168 rfl (lv_at hl 3 rfl) ?_
                    refine va_get (D := (dC, dI)) (ci := 3) (v := .ref a3_5) (C := RX3) (T := TX3) (N := 17) hx hb hts i_X3_join_X3 hown hK hP 2 rfl rfl 5 (by decide) k_2 (fun _ h9 => h9) rfl dX3_join_169 ?_
                    refine lv_iload hx hb dX3_join_172 (lv_at hl 6 rfl) ?_
                    refine lv_iload hx hb dX3_join_174 (lv_at hl 7 rfl) ?_
                    refine lv_iadd hx hb dX3_join_176 ?_
                    refine lv_iload hx hb dX3_join_177 (lv_at hl 1 rfl) ?_
                    obtain ⟨g_35, hf⟩ := x_gu hf
                    refine va_iast hx hb hK hP hD hS 3 0 rfl rfl (x_gdin g_35) dX3_join_179 (fun H locs hP hD hS => ?_)
                    have hP : va_P (dC, dI) vwCl [(o7, .inr (7, [.ref a7_0, .ref a7_1, .int v7_2])), (a7_0, .inl (cyI, 200, .inl g7_0)), (o3, .inr (3, [.ref o7, .ref o1, .int v3_2, .int v3_3, .int v3_4, .ref a3_5, .ref a3_6, .ref a3_7, .ref a3_8, .ref a3_9, .ref a3_10, .ref a3_11, .ref a3_12, .int v3_13, .int v3_14, .ref a3_15, .ref a3_16])), (a3_5, .inl (cyI, n3_5, .inl (upd g3_5 (Int32.toNatClampNeg (l4 + l5)) r_14))), (a3_8, .inl (cyI, n3_8, .inl g3_8)), (a3_9, .inl (cyI, n3_9, .inl g3_9)), (a3_12, .inl (cyI, n3_12, .inl g3_12)), (o5, .inr (5, [.ref o7, .ref a5_1, .int v5_2, .int v5_3, .int v5_4, .int v5_5, .int v5_6, .int v5_7, .int v5_8, .int v5_9])), (a5_1, .inl (cyI, 400, .inl g5_1))] H := hP
                    have hD : va_D A [(o7, .inr (7, [.ref a7_0, .ref a7_1, .int v7_2])), (a7_0, .inl (cyI, 200, .inl g7_0)), (o3, .inr (3, [.ref o7, .ref o1, .int v3_2, .int v3_3, .int v3_4, .ref a3_5, .ref a3_6, .ref a3_7, .ref a3_8, .ref a3_9, .ref a3_10, .ref a3_11, .ref a3_12, .int v3_13, .int v3_14, .ref a3_15, .ref a3_16])), (a3_5, .inl (cyI, n3_5, .inl (upd g3_5 (Int32.toNatClampNeg (l4 + l5)) r_14))), (a3_8, .inl (cyI, n3_8, .inl g3_8)), (a3_9, .inl (cyI, n3_9, .inl g3_9)), (a3_12, .inl (cyI, n3_12, .inl g3_12)), (o5, .inr (5, [.ref o7, .ref a5_1, .int v5_2, .int v5_3, .int v5_4, .int v5_5, .int v5_6, .int v5_7, .int v5_8, .int v5_9])), (a5_1, .inl (cyI, 400, .inl g5_1))] := hD
                    refine lv_iinc (v := (l5 + 1)) (lv' := [(5, .int (l5 + 1)), (3, .int 1), (7, .int r_14), (6, .int (g3_5 (Int32.toNatClampNeg (l4 + l5)))), (0, .ref o3), (1, .int l1), (2, .ref o5), (4, .int l4)]) hx hb dX3_join_180 hl (k := 7) rfl rfl (by decide) rfl (fun ls hl => ?_)
                    refine lv_goto (tgt := 50) hx hb dX3_join_183 (by decide) ?_
                    exact (hWW _ _ _ _ _).mpr ((ih (0, 1, l5 + 1, upd g3_5 (Int32.toNatClampNeg (l4 + l5)) r_14) _ hf rfl _ _ _ _ rfl) rfl H locs ls hP hD hS (lv_sub hl [4, 5, 6, 1, 7, 0] rfl))
              · replace hf := x_ip c_30 hf
                refine lv_iload hx hb dX3_join_140 (lv_at hl 7 rfl) ?_
                refine lv_aload_n hx hb dX3_join_142 rfl (lv_at hl 2 rfl) ?_
                refine va_get (D := (dC, dI)) (ci := 3) (v := .int v3_2) (C := RX3) (T := TX3) (N := 17) hx hb hts i_X3_join_X3 hown hK hP 2 rfl rfl 2 (by decide) k_4 (fun _ h9 => h9) rfl dX3_join_143 ?_
                refine lv_icmp_lt (tgt := 151) hx hb dX3_join_146 (by decide) (fun c_36 => ?_) (fun c_36 => ?_)
                · replace hf := x_ip c_36 hf
                  refine lv_iload_n hx hb dX3_join_151 rfl (lv_at hl 5 rfl) ?_
                  refine lv_if_ne (tgt := 162) hx hb dX3_join_152 (by decide) (fun c_37 => ?_) (fun c_37 => ?_)
                  · replace hf := x_in c_37 hf
                    refine lv_iconst (v := 1) hx hb dX3_join_162 (by decide) ?_
                    refine lv_goto (tgt := 167) hx hb dX3_join_163 (by decide) ?_
                    refine lv_istore_n (lv' := [(3, .int 1), (7, .int r_14), (6, .int (g3_5 (Int32.toNatClampNeg (l4 + l5)))), (0, .ref o3), (1, .int l1), (2, .ref o5), (4, .int l4), (5, .int l5)]) hx hb dX3_join_167 rfl hl (by decide) rfl (fun ls hl => ?_)
                    refine lv_aload_n hx hb dX3_join_168 rfl (lv_at hl 3 rfl) ?_
                    refine va_get (D := (dC, dI)) (ci := 3) (v := .ref a3_5) (C := RX3) (T := TX3) (N := 17) hx hb hts i_X3_join_X3 hown hK hP 2 rfl rfl 5 (by decide) k_2 (fun _ h9 => h9) rfl dX3_join_169 ?_
                    refine lv_iload hx hb dX3_join_172 (lv_at hl 6 rfl) ?_
                    refine lv_iload hx hb dX3_join_174 (lv_at hl 7 rfl) ?_
                    refine lv_iadd hx hb dX3_join_176 ?_
                    refine lv_iload hx hb dX3_join_177 (lv_at hl 1 rfl) ?_
                    obtain ⟨g_38, hf⟩ := x_gu hf
                    refine va_iast hx hb hK hP hD hS 3 0 rfl rfl (x_gdin g_38) dX3_join_179 (fun H locs hP hD hS => ?_)
                    have hP : va_P (dC, dI) vwCl [(o7, .inr (7, [.ref a7_0, .ref a7_1, .int v7_2])), (a7_0, .inl (cyI, 200, .inl g7_0)), (o3, .inr (3, [.ref o7, .ref o1, .int v3_2, .int v3_3, .int v3_4, .ref a3_5, .ref a3_6, .ref a3_7, .ref a3_8, .ref a3_9, .ref a3_10, .ref a3_11, .ref a3_12, .int v3_13, .int v3_14, .ref a3_15, .ref a3_16])), (a3_5, .inl (cyI, n3_5, .inl (upd g3_5 (Int32.toNatClampNeg (l4 + l5)) r_14))), (a3_8, .inl (cyI, n3_8, .inl g3_8)), (a3_9, .inl (cyI, n3_9, .inl g3_9)), (a3_12, .inl (cyI, n3_12, .inl g3_12)), (o5, .inr (5, [.ref o7, .ref a5_1, .int v5_2, .int v5_3, .int v5_4, .int v5_5, .int v5_6, .int v5_7, .int v5_8, .int v5_9])), (a5_1, .inl (cyI, 400, .inl g5_1))] H := hP
                    have hD : va_D A [(o7, .inr (7, [.ref a7_0, .ref a7_1, .int v7_2])), (a7_0, .inl (cyI, 200, .inl g7_0)), (o3, .inr (3, [.ref o7, .ref o1, .int v3_2, .int v3_3, .int v3_4, .ref a3_5, .ref a3_6, .ref a3_7, .ref a3_8, .ref a3_9, .ref a3_10, .ref a3_11, .ref a3_12, .int v3_13, .int v3_14, .ref a3_15, .ref a3_16])), (a3_5, .inl (cyI, n3_5, .inl (upd g3_5 (Int32.toNatClampNeg (l4 + l5)) r_14))), (a3_8, .inl (cyI, n3_8, .inl g3_8)), (a3_9, .inl (cyI, n3_9, .inl g3_9)), (a3_12, .inl (cyI, n3_12, .inl g3_12)), (o5, .inr (5, [.ref o7, .ref a5_1, .int v5_2, .int v5_3, .int v5_4, .int v5_5, .int v5_6, .int v5_7, .int v5_8, .int v5_9])), (a5_1, .inl (cyI, 400, .inl g5_1))] := hD
                    refine lv_iinc (v := (l5 + 1)) (lv' := [(5, .int (l5 + 1)), (3, .int 1), (7, .int r_14), (6, .int (g3_5 (Int32.toNatClampNeg (l4 + l5)))), (0, .ref o3), (1, .int l1), (2, .ref o5), (4, .int l4)]) hx hb dX3_join_180 hl (k := 7) rfl rfl (by decide) rfl (fun ls hl => ?_)
                    refine lv_goto (tgt := 50) hx hb dX3_join_183 (by decide) ?_
                    exact (hWW _ _ _ _ _).mpr ((ih (0, 1, l5 + 1, upd g3_5 (Int32.toNatClampNeg (l4 + l5)) r_14) _ hf rfl _ _ _ _ rfl) rfl H locs ls hP hD hS (lv_sub hl [4, 5, 6, 1, 7, 0] rfl))
                  · replace hf := x_ip c_37 hf
                    refine lv_iload hx hb dX3_join_155 (lv_at hl 0 rfl) ?_
                    refine lv_iload hx hb dX3_join_157 (lv_at hl 1 rfl) ?_
                    refine lv_icmp_eq (tgt := 166) hx hb dX3_join_159 (by decide) (fun c_39 => ?_) (fun c_39 => ?_)
                    · replace hf := x_ip c_39 hf
                      refine lv_iconst (v := 0) hx hb dX3_join_166 (by decide) ?_
                      refine lv_istore_n (lv' := [(3, .int 0), (7, .int r_14), (6, .int (g3_5 (Int32.toNatClampNeg (l4 + l5)))), (0, .ref o3), (1, .int l1), (2, .ref o5), (4, .int l4), (5, .int l5)]) hx hb dX3_join_167 rfl hl (by decide) rfl (fun ls hl => ?_)
                      refine lv_aload_n hx hb dX3_join_168 rfl (lv_at hl 3 rfl) ?_
                      refine va_get (D := (dC, dI)) (ci := 3) (v := .ref a3_5) (C := RX3) (T := TX3) (N := 17) hx hb hts i_X3_join_X3 hown hK hP 2 rfl rfl 5 (by decide) k_2 (fun _ h9 => h9) rfl dX3_join_169 ?_
                      refine lv_iload hx hb dX3_join_172 (lv_at hl 6 rfl) ?_
                      refine lv_iload hx hb dX3_join_174 (lv_at hl 7 rfl) ?_
                      refine lv_iadd hx hb dX3_join_176 ?_
                      refine lv_iload hx hb dX3_join_177 (lv_at hl 1 rfl) ?_
                      obtain ⟨g_40, hf⟩ := x_gu hf
                      refine va_iast hx hb hK hP hD hS 3 0 rfl rfl (x_gdin g_40) dX3_join_179 (fun H locs hP hD hS => ?_)
                      have hP : va_P (dC, dI) vwCl [(o7, .inr (7, [.ref a7_0, .ref a7_1, .int v7_2])), (a7_0, .inl (cyI, 200, .inl g7_0)), (o3, .inr (3, [.ref o7, .ref o1, .int v3_2, .int v3_3, .int v3_4, .ref a3_5, .ref a3_6, .ref a3_7, .ref a3_8, .ref a3_9, .ref a3_10, .ref a3_11, .ref a3_12, .int v3_13, .int v3_14, .ref a3_15, .ref a3_16])), (a3_5, .inl (cyI, n3_5, .inl (upd g3_5 (Int32.toNatClampNeg (l4 + l5)) r_14))), (a3_8, .inl (cyI, n3_8, .inl g3_8)), (a3_9, .inl (cyI, n3_9, .inl g3_9)), (a3_12, .inl (cyI, n3_12, .inl g3_12)), (o5, .inr (5, [.ref o7, .ref a5_1, .int v5_2, .int v5_3, .int v5_4, .int v5_5, .int v5_6, .int v5_7, .int v5_8, .int v5_9])), (a5_1, .inl (cyI, 400, .inl g5_1))] H := hP
                      have hD : va_D A [(o7, .inr (7, [.ref a7_0, .ref a7_1, .int v7_2])), (a7_0, .inl (cyI, 200, .inl g7_0)), (o3, .inr (3, [.ref o7, .ref o1, .int v3_2, .int v3_3, .int v3_4, .ref a3_5, .ref a3_6, .ref a3_7, .ref a3_8, .ref a3_9, .ref a3_10, .ref a3_11, .ref a3_12, .int v3_13, .int v3_14, .ref a3_15, .ref a3_16])), (a3_5, .inl (cyI, n3_5, .inl (upd g3_5 (Int32.toNatClampNeg (l4 + l5)) r_14))), (a3_8, .inl (cyI, n3_8, .inl g3_8)), (a3_9, .inl (cyI, n3_9, .inl g3_9)), (a3_12, .inl (cyI, n3_12, .inl g3_12)), (o5, .inr (5, [.ref o7, .ref a5_1, .int v5_2, .int v5_3, .int v5_4, .int v5_5, .int v5_6, .int v5_7, .int v5_8, .int v5_9])), (a5_1, .inl (cyI, 400, .inl g5_1))] := hD
                      refine lv_iinc (v := (l5 + 1)) (lv' := [(5, .int (l5 + 1)), (3, .int 0), (7, .int r_14), (6, .int (g3_5 (Int32.toNatClampNeg (l4 + l5)))), (0, .ref o3), (1, .int l1), (2, .ref o5), (4, .int l4)]) hx hb dX3_join_180 hl (k := 7) rfl rfl (by decide) rfl (fun ls hl => ?_)
                      refine lv_goto (tgt := 50) hx hb dX3_join_183 (by decide) ?_
                      exact (hWW _ _ _ _ _).mpr ((ih (0, 0, l5 + 1, upd g3_5 (Int32.toNatClampNeg (l4 + l5)) r_14) _ hf rfl _ _ _ _ rfl) rfl H locs ls hP hD hS (lv_sub hl [4, 5, 6, 1, 7, 0] rfl))
                    · replace hf := x_in c_39 hf
                      refine lv_iconst (v := 1) hx hb dX3_join_162 (by decide) ?_
                      refine lv_goto (tgt := 167) hx hb dX3_join_163 (by decide) ?_
                      refine lv_istore_n (lv' := [(3, .int 1), (7, .int r_14), (6, .int (g3_5 (Int32.toNatClampNeg (l4 + l5)))), (0, .ref o3), (1, .int l1), (2, .ref o5), (4, .int l4), (5, .int l5)]) hx hb dX3_join_167 rfl hl (by decide) rfl (fun ls hl => ?_)
                      refine lv_aload_n hx hb dX3_join_168 rfl (lv_at hl 3 rfl) ?_
                      refine va_get (D := (dC, dI)) (ci := 3) (v := .ref a3_5) (C := RX3) (T := TX3) (N := 17) hx hb hts i_X3_join_X3 hown hK hP 2 rfl rfl 5 (by decide) k_2 (fun _ h9 => h9) rfl dX3_join_169 ?_
                      refine lv_iload hx hb dX3_join_172 (lv_at hl 6 rfl) ?_
                      refine lv_iload hx hb dX3_join_174 (lv_at hl 7 rfl) ?_
                      refine lv_iadd hx hb dX3_join_176 ?_
                      refine lv_iload hx hb dX3_join_177 (lv_at hl 1 rfl) ?_
                      obtain ⟨g_41, hf⟩ := x_gu hf
                      refine va_iast hx hb hK hP hD hS 3 0 rfl rfl (x_gdin g_41) dX3_join_179 (fun H locs hP hD hS => ?_)
                      have hP : va_P (dC, dI) vwCl [(o7, .inr (7, [.ref a7_0, .ref a7_1, .int v7_2])), (a7_0, .inl (cyI, 200, .inl g7_0)), (o3, .inr (3, [.ref o7, .ref o1, .int v3_2, .int v3_3, .int v3_4, .ref a3_5, .ref a3_6, .ref a3_7, .ref a3_8, .ref a3_9, .ref a3_10, .ref a3_11, .ref a3_12, .int v3_13, .int v3_14, .ref a3_15, .ref a3_16])), (a3_5, .inl (cyI, n3_5, .inl (upd g3_5 (Int32.toNatClampNeg (l4 + l5)) r_14))), (a3_8, .inl (cyI, n3_8, .inl g3_8)), (a3_9, .inl (cyI, n3_9, .inl g3_9)), (a3_12, .inl (cyI, n3_12, .inl g3_12)), (o5, .inr (5, [.ref o7, .ref a5_1, .int v5_2, .int v5_3, .int v5_4, .int v5_5, .int v5_6, .int v5_7, .int v5_8, .int v5_9])), (a5_1, .inl (cyI, 400, .inl g5_1))] H := hP
                      have hD : va_D A [(o7, .inr (7, [.ref a7_0, .ref a7_1, .int v7_2])), (a7_0, .inl (cyI, 200, .inl g7_0)), (o3, .inr (3, [.ref o7, .ref o1, .int v3_2, .int v3_3, .int v3_4, .ref a3_5, .ref a3_6, .ref a3_7, .ref a3_8, .ref a3_9, .ref a3_10, .ref a3_11, .ref a3_12, .int v3_13, .int v3_14, .ref a3_15, .ref a3_16])), (a3_5, .inl (cyI, n3_5, .inl (upd g3_5 (Int32.toNatClampNeg (l4 + l5)) r_14))), (a3_8, .inl (cyI, n3_8, .inl g3_8)), (a3_9, .inl (cyI, n3_9, .inl g3_9)), (a3_12, .inl (cyI, n3_12, .inl g3_12)), (o5, .inr (5, [.ref o7, .ref a5_1, .int v5_2, .int v5_3, .int v5_4, .int v5_5, .int v5_6, .int v5_7, .int v5_8, .int v5_9])), (a5_1, .inl (cyI, 400, .inl g5_1))] := hD
                      refine lv_iinc (v := (l5 + 1)) (lv' := [(5, .int (l5 + 1)), (3, .int 1), (7, .int r_14), (6, .int (g3_5 (Int32.toNatClampNeg (l4 + l5)))), (0, .ref o3), (1, .int l1), (2, .ref o5), (4, .int l4)]) hx hb dX3_join_180 hl (k := 7) rfl rfl (by decide) rfl (fun ls hl => ?_)
                      refine lv_goto (tgt := 50) hx hb dX3_join_183 (by decide) ?_
                      exact (hWW _ _ _ _ _).mpr ((ih (0, 1, l5 + 1, upd g3_5 (Int32.toNatClampNeg (l4 + l5)) r_14) _ hf rfl _ _ _ _ rfl) rfl H locs ls hP hD hS (lv_sub hl [4, 5, 6, 1, 7, 0] rfl))
                · replace hf := x_in c_36 hf
                  refine lv_iconst (v := 0) hx hb dX3_join_149 (by decide) ?_
                  obtain rfl := Option.some.inj hf
                  have hP9 := hP.sub (ws' := [(o7, .inr (7, [.ref a7_0, .ref a7_1, .int v7_2])), (a7_0, .inl (cyI, 200, .inl g7_0)), (o3, .inr (3, [.ref o7, .ref o1, .int v3_2, .int v3_3, .int v3_4, .ref a3_5, .ref a3_6, .ref a3_7, .ref a3_8, .ref a3_9, .ref a3_10, .ref a3_11, .ref a3_12, .int v3_13, .int v3_14, .ref a3_15, .ref a3_16])), (a3_5, .inl (cyI, n3_5, .inl g3_5)), (a3_8, .inl (cyI, n3_8, .inl g3_8)), (a3_9, .inl (cyI, n3_9, .inl g3_9)), (a3_12, .inl (cyI, n3_12, .inl g3_12)), (o5, .inr (5, [.ref o7, .ref a5_1, .int v5_2, .int v5_3, .int v5_4, .int v5_5, .int v5_6, .int v5_7, .int v5_8, .int v5_9])), (a5_1, .inl (cyI, 400, .inl g5_1))]) [0, 1, 2, 3, 4, 5, 6, 7, 8] rfl
                  have hD9 := hD.sub (ws' := [(o7, .inr (7, [.ref a7_0, .ref a7_1, .int v7_2])), (a7_0, .inl (cyI, 200, .inl g7_0)), (o3, .inr (3, [.ref o7, .ref o1, .int v3_2, .int v3_3, .int v3_4, .ref a3_5, .ref a3_6, .ref a3_7, .ref a3_8, .ref a3_9, .ref a3_10, .ref a3_11, .ref a3_12, .int v3_13, .int v3_14, .ref a3_15, .ref a3_16])), (a3_5, .inl (cyI, n3_5, .inl g3_5)), (a3_8, .inl (cyI, n3_8, .inl g3_8)), (a3_9, .inl (cyI, n3_9, .inl g3_9)), (a3_12, .inl (cyI, n3_12, .inl g3_12)), (o5, .inr (5, [.ref o7, .ref a5_1, .int v5_2, .int v5_3, .int v5_4, .int v5_5, .int v5_6, .int v5_7, .int v5_8, .int v5_9])), (a5_1, .inl (cyI, 400, .inl g5_1))]) [0, 1, 2, 3, 4, 5, 6, 7, 8] (by decide) rfl
                  exact W.zret (ty := .boolean) hx hb hr rfl (fun t ht hW => ⟨⟨_, (), rfl, ⟨rfl, rfl⟩, by rw [ht]; exact hP9, va_K.moved hW.alike hK, hD9⟩, hS.F ht⟩) hS.2.2 dX3_join_150
            · replace hf := x_ip c_29 hf
              refine lv_iconst (v := 0) hx hb dX3_join_132 (by decide) ?_
              refine lv_istore (lv' := [(7, .int 0), (6, .int (g3_5 (Int32.toNatClampNeg (l4 + l5)))), (0, .ref o3), (1, .int l1), (2, .ref o5), (3, .int l3), (4, .int l4), (5, .int l5)]) hx hb dX3_join_133 hl (by decide) rfl (fun ls hl => ?_)
              refine lv_iload hx hb dX3_join_135 (lv_at hl 0 rfl) ?_
              refine lv_if_ne (tgt := 151) hx hb dX3_join_137 (by decide) (fun c_42 => absurd (by decide) c_42) (fun _ => ?_)
              refine lv_iload hx hb dX3_join_140 (lv_at hl 7 rfl) ?_
              refine lv_aload_n hx hb dX3_join_142 rfl (lv_at hl 2 rfl) ?_
              refine va_get (D := (dC, dI)) (ci := 3) (v := .int v3_2) (C := RX3) (T := TX3) (N := 17) hx hb hts i_X3_join_X3 hown hK hP 2 rfl rfl 2 (by decide) k_4 (fun _ h9 => h9) rfl dX3_join_143 ?_
              refine lv_icmp_lt (tgt := 151) hx hb dX3_join_146 (by decide) (fun c_43 => ?_) (fun c_43 => ?_)
              · replace hf := x_ip c_43 hf
                refine lv_iload_n hx hb dX3_join_151 rfl (lv_at hl 5 rfl) ?_
                refine lv_if_ne (tgt := 162) hx hb dX3_join_152 (by decide) (fun c_44 => ?_) (fun c_44 => ?_)
                · replace hf := x_in c_44 hf
                  refine lv_iconst (v := 1) hx hb dX3_join_162 (by decide) ?_
                  refine lv_goto (tgt := 167) hx hb dX3_join_163 (by decide) ?_
                  refine lv_istore_n (lv' := [(3, .int 1), (7, .int 0), (6, .int (g3_5 (Int32.toNatClampNeg (l4 + l5)))), (0, .ref o3), (1, .int l1), (2, .ref o5), (4, .int l4), (5, .int l5)]) hx hb dX3_join_167 rfl hl (by decide) rfl (fun ls hl => ?_)
                  refine lv_aload_n hx hb dX3_join_168 rfl (lv_at hl 3 rfl) ?_
                  refine va_get (D := (dC, dI)) (ci := 3) (v := .ref a3_5) (C := RX3) (T := TX3) (N := 17) hx hb hts i_X3_join_X3 hown hK hP 2 rfl rfl 5 (by decide) k_2 (fun _ h9 => h9) rfl dX3_join_169 ?_
                  refine lv_iload hx hb dX3_join_172 (lv_at hl 6 rfl) ?_
                  refine lv_iload hx hb dX3_join_174 (lv_at hl 7 rfl) ?_
                  refine lv_iadd hx hb dX3_join_176 ?_
                  refine lv_iload hx hb dX3_join_177 (lv_at hl 1 rfl) ?_
                  obtain ⟨g_45, hf⟩ := x_gu hf
                  refine va_iast hx hb hK hP hD hS 3 0 rfl rfl (x_gdin g_45) dX3_join_179 (fun H locs hP hD hS => ?_)
                  have hP : va_P (dC, dI) vwCl [(o7, .inr (7, [.ref a7_0, .ref a7_1, .int v7_2])), (a7_0, .inl (cyI, 200, .inl g7_0)), (o3, .inr (3, [.ref o7, .ref o1, .int v3_2, .int v3_3, .int v3_4, .ref a3_5, .ref a3_6, .ref a3_7, .ref a3_8, .ref a3_9, .ref a3_10, .ref a3_11, .ref a3_12, .int v3_13, .int v3_14, .ref a3_15, .ref a3_16])), (a3_5, .inl (cyI, n3_5, .inl (upd g3_5 (Int32.toNatClampNeg (l4 + l5)) 0))), (a3_8, .inl (cyI, n3_8, .inl g3_8)), (a3_9, .inl (cyI, n3_9, .inl g3_9)), (a3_12, .inl (cyI, n3_12, .inl g3_12)), (o5, .inr (5, [.ref o7, .ref a5_1, .int v5_2, .int v5_3, .int v5_4, .int v5_5, .int v5_6, .int v5_7, .int v5_8, .int v5_9])), (a5_1, .inl (cyI, 400, .inl g5_1))] H := hP
                  have hD : va_D A [(o7, .inr (7, [.ref a7_0, .ref a7_1, .int v7_2])), (a7_0, .inl (cyI, 200, .inl g7_0)), (o3, .inr (3, [.ref o7, .ref o1, .int v3_2, .int v3_3, .int v3_4, .ref a3_5, .ref a3_6, .ref a3_7, .ref a3_8, .ref a3_9, .ref a3_10, .ref a3_11, .ref a3_12, .int v3_13, .int v3_14, .ref a3_15, .ref a3_16])), (a3_5, .inl (cyI, n3_5, .inl (upd g3_5 (Int32.toNatClampNeg (l4 + l5)) 0))), (a3_8, .inl (cyI, n3_8, .inl g3_8)), (a3_9, .inl (cyI, n3_9, .inl g3_9)), (a3_12, .inl (cyI, n3_12, .inl g3_12)), (o5, .inr (5, [.ref o7, .ref a5_1, .int v5_2, .int v5_3, .int v5_4, .int v5_5, .int v5_6, .int v5_7, .int v5_8, .int v5_9])), (a5_1, .inl (cyI, 400, .inl g5_1))] := hD
                  refine lv_iinc (v := (l5 + 1)) (lv' := [(5, .int (l5 + 1)), (3, .int 1), (7, .int 0), (6, .int (g3_5 (Int32.toNatClampNeg (l4 + l5)))), (0, .ref o3), (1, .int l1), (2, .ref o5), (4, .int l4)]) hx hb dX3_join_180 hl (k := 7) rfl rfl (by decide) rfl (fun ls hl => ?_)
                  refine lv_goto (tgt := 50) hx hb dX3_join_183 (by decide) ?_
                  exact (hWW _ _ _ _ _).mpr ((ih (0, 1, l5 + 1, upd g3_5 (Int32.toNatClampNeg (l4 + l5)) 0) _ hf rfl _ _ _ _ rfl) rfl H locs ls hP hD hS (lv_sub hl [4, 5, 6, 1, 7, 0] rfl))
                · replace hf := x_ip c_44 hf
                  refine lv_iload hx hb dX3_join_155 (lv_at hl 0 rfl) ?_
                  refine lv_iload hx hb dX3_join_157 (lv_at hl 1 rfl) ?_
                  refine lv_icmp_eq (tgt := 166) hx hb dX3_join_159 (by decide) (fun c_46 => ?_) (fun c_46 => ?_)
                  · replace hf := x_ip c_46 hf
                    refine lv_iconst (v := 0) hx hb dX3_join_166 (by decide) ?_
                    refine lv_istore_n (lv' := [(3, .int 0), (7, .int 0), (6, .int (g3_5 (Int32.toNatClampNeg (l4 + l5)))), (0, .ref o3), (1, .int l1), (2, .ref o5), (4, .int l4), (5, .int l5)]) hx hb dX3_join_167 rfl hl (by decide) rfl (fun ls hl => ?_)
                    refine lv_aload_n hx hb dX3_join_168 rfl (lv_at hl 3 rfl) ?_
                    refine va_get (D := (dC, dI)) (ci := 3) (v := .ref a3_5) (C := RX3) (T := TX3) (N := 17) hx hb hts i_X3_join_X3 hown hK hP 2 rfl rfl 5 (by decide) k_2 (fun _ h9 => h9) rfl dX3_join_169 ?_
                    refine lv_iload hx hb dX3_join_172 (lv_at hl 6 rfl) ?_
                    refine lv_iload hx hb dX3_join_174 (lv_at hl 7 rfl) ?_
                    refine lv_iadd hx hb dX3_join_176 ?_
                    refine lv_iload hx hb dX3_join_177 (lv_at hl 1 rfl) ?_
                    obtain ⟨g_47, hf⟩ := x_gu hf
                    refine va_iast hx hb hK hP hD hS 3 0 rfl rfl (x_gdin g_47) dX3_join_179 (fun H locs hP hD hS => ?_)
                    have hP : va_P (dC, dI) vwCl [(o7, .inr (7, [.ref a7_0, .ref a7_1, .int v7_2])), (a7_0, .inl (cyI, 200, .inl g7_0)), (o3, .inr (3, [.ref o7, .ref o1, .int v3_2, .int v3_3, .int v3_4, .ref a3_5, .ref a3_6, .ref a3_7, .ref a3_8, .ref a3_9, .ref a3_10, .ref a3_11, .ref a3_12, .int v3_13, .int v3_14, .ref a3_15, .ref a3_16])), (a3_5, .inl (cyI, n3_5, .inl (upd g3_5 (Int32.toNatClampNeg (l4 + l5)) 0))), (a3_8, .inl (cyI, n3_8, .inl g3_8)), (a3_9, .inl (cyI, n3_9, .inl g3_9)), (a3_12, .inl (cyI, n3_12, .inl g3_12)), (o5, .inr (5, [.ref o7, .ref a5_1, .int v5_2, .int v5_3, .int v5_4, .int v5_5, .int v5_6, .int v5_7, .int v5_8, .int v5_9])), (a5_1, .inl (cyI, 400, .inl g5_1))] H := hP
                    have hD : va_D A [(o7, .inr (7, [.ref a7_0, .ref a7_1, .int v7_2])), (a7_0, .inl (cyI, 200, .inl g7_0)), (o3, .inr (3, [.ref o7, .ref o1, .int v3_2, .int v3_3, .int v3_4, .ref a3_5, .ref a3_6, .ref a3_7, .ref a3_8, .ref a3_9, .ref a3_10, .ref a3_11, .ref a3_12, .int v3_13, .int v3_14, .ref a3_15, .ref a3_16])), (a3_5, .inl (cyI, n3_5, .inl (upd g3_5 (Int32.toNatClampNeg (l4 + l5)) 0))), (a3_8, .inl (cyI, n3_8, .inl g3_8)), (a3_9, .inl (cyI, n3_9, .inl g3_9)), (a3_12, .inl (cyI, n3_12, .inl g3_12)), (o5, .inr (5, [.ref o7, .ref a5_1, .int v5_2, .int v5_3, .int v5_4, .int v5_5, .int v5_6, .int v5_7, .int v5_8, .int v5_9])), (a5_1, .inl (cyI, 400, .inl g5_1))] := hD
                    refine lv_iinc (v := (l5 + 1)) (lv' := [(5, .int (l5 + 1)), (3, .int 0), (7, .int 0), (6, .int (g3_5 (Int32.toNatClampNeg (l4 + l5)))), (0, .ref o3), (1, .int l1), (2, .ref o5), (4, .int l4)]) hx hb dX3_join_180 hl (k := 7) rfl rfl (by decide) rfl (fun ls hl => ?_)
                    refine lv_goto (tgt := 50) hx hb dX3_join_183 (by decide) ?_
                    exact (hWW _ _ _ _ _).mpr ((ih (0, 0, l5 + 1, upd g3_5 (Int32.toNatClampNeg (l4 + l5)) 0) _ hf rfl _ _ _ _ rfl) rfl H locs ls hP hD hS (lv_sub hl [4, 5, 6, 1, 7, 0] rfl))
                  · replace hf := x_in c_46 hf
                    refine lv_iconst (v := 1) hx hb dX3_join_162 (by decide) ?_
                    refine lv_goto (tgt := 167) hx hb dX3_join_163 (by decide) ?_
                    refine lv_istore_n (lv' := [(3, .int 1), (7, .int 0), (6, .int (g3_5 (Int32.toNatClampNeg (l4 + l5)))), (0, .ref o3), (1, .int l1), (2, .ref o5), (4, .int l4), (5, .int l5)]) hx hb dX3_join_167 rfl hl (by decide) rfl (fun ls hl => ?_)
                    refine lv_aload_n hx hb dX3_join_168 rfl (lv_at hl 3 rfl) ?_
                    refine va_get (D := (dC, dI)) (ci := 3) (v := .ref a3_5) (C := RX3) (T := TX3) (N := 17) hx hb hts i_X3_join_X3 hown hK hP 2 rfl rfl 5 (by decide) k_2 (fun _ h9 => h9) rfl dX3_join_169 ?_
                    refine lv_iload hx hb dX3_join_172 (lv_at hl 6 rfl) ?_
                    refine lv_iload hx hb dX3_join_174 (lv_at hl 7 rfl) ?_
                    refine lv_iadd hx hb dX3_join_176 ?_
                    refine lv_iload hx hb dX3_join_177 (lv_at hl 1 rfl) ?_
                    obtain ⟨g_48, hf⟩ := x_gu hf
                    refine va_iast hx hb hK hP hD hS 3 0 rfl rfl (x_gdin g_48) dX3_join_179 (fun H locs hP hD hS => ?_)
                    have hP : va_P (dC, dI) vwCl [(o7, .inr (7, [.ref a7_0, .ref a7_1, .int v7_2])), (a7_0, .inl (cyI, 200, .inl g7_0)), (o3, .inr (3, [.ref o7, .ref o1, .int v3_2, .int v3_3, .int v3_4, .ref a3_5, .ref a3_6, .ref a3_7, .ref a3_8, .ref a3_9, .ref a3_10, .ref a3_11, .ref a3_12, .int v3_13, .int v3_14, .ref a3_15, .ref a3_16])), (a3_5, .inl (cyI, n3_5, .inl (upd g3_5 (Int32.toNatClampNeg (l4 + l5)) 0))), (a3_8, .inl (cyI, n3_8, .inl g3_8)), (a3_9, .inl (cyI, n3_9, .inl g3_9)), (a3_12, .inl (cyI, n3_12, .inl g3_12)), (o5, .inr (5, [.ref o7, .ref a5_1, .int v5_2, .int v5_3, .int v5_4, .int v5_5, .int v5_6, .int v5_7, .int v5_8, .int v5_9])), (a5_1, .inl (cyI, 400, .inl g5_1))] H := hP
                    have hD : va_D A [(o7, .inr (7, [.ref a7_0, .ref a7_1, .int v7_2])), (a7_0, .inl (cyI, 200, .inl g7_0)), (o3, .inr (3, [.ref o7, .ref o1, .int v3_2, .int v3_3, .int v3_4, .ref a3_5, .ref a3_6, .ref a3_7, .ref a3_8, .ref a3_9, .ref a3_10, .ref a3_11, .ref a3_12, .int v3_13, .int v3_14, .ref a3_15, .ref a3_16])), (a3_5, .inl (cyI, n3_5, .inl (upd g3_5 (Int32.toNatClampNeg (l4 + l5)) 0))), (a3_8, .inl (cyI, n3_8, .inl g3_8)), (a3_9, .inl (cyI, n3_9, .inl g3_9)), (a3_12, .inl (cyI, n3_12, .inl g3_12)), (o5, .inr (5, [.ref o7, .ref a5_1, .int v5_2, .int v5_3, .int v5_4, .int v5_5, .int v5_6, .int v5_7, .int v5_8, .int v5_9])), (a5_1, .inl (cyI, 400, .inl g5_1))] := hD
                    refine lv_iinc (v := (l5 + 1)) (lv' := [(5, .int (l5 + 1)), (3, .int 1), (7, .int 0), (6, .int (g3_5 (Int32.toNatClampNeg (l4 + l5)))), (0, .ref o3), (1, .int l1), (2, .ref o5), (4, .int l4)]) hx hb dX3_join_180 hl (k := 7) rfl rfl (by decide) rfl (fun ls hl => ?_)
                    refine lv_goto (tgt := 50) hx hb dX3_join_183 (by decide) ?_
                    exact (hWW _ _ _ _ _).mpr ((ih (0, 1, l5 + 1, upd g3_5 (Int32.toNatClampNeg (l4 + l5)) 0) _ hf rfl _ _ _ _ rfl) rfl H locs ls hP hD hS (lv_sub hl [4, 5, 6, 1, 7, 0] rfl))
              · replace hf := x_in c_43 hf
                refine lv_iconst (v := 0) hx hb dX3_join_149 (by decide) ?_
                obtain rfl := Option.some.inj hf
                have hP9 := hP.sub (ws' := [(o7, .inr (7, [.ref a7_0, .ref a7_1, .int v7_2])), (a7_0, .inl (cyI, 200, .inl g7_0)), (o3, .inr (3, [.ref o7, .ref o1, .int v3_2, .int v3_3, .int v3_4, .ref a3_5, .ref a3_6, .ref a3_7, .ref a3_8, .ref a3_9, .ref a3_10, .ref a3_11, .ref a3_12, .int v3_13, .int v3_14, .ref a3_15, .ref a3_16])), (a3_5, .inl (cyI, n3_5, .inl g3_5)), (a3_8, .inl (cyI, n3_8, .inl g3_8)), (a3_9, .inl (cyI, n3_9, .inl g3_9)), (a3_12, .inl (cyI, n3_12, .inl g3_12)), (o5, .inr (5, [.ref o7, .ref a5_1, .int v5_2, .int v5_3, .int v5_4, .int v5_5, .int v5_6, .int v5_7, .int v5_8, .int v5_9])), (a5_1, .inl (cyI, 400, .inl g5_1))]) [0, 1, 2, 3, 4, 5, 6, 7, 8] rfl
                have hD9 := hD.sub (ws' := [(o7, .inr (7, [.ref a7_0, .ref a7_1, .int v7_2])), (a7_0, .inl (cyI, 200, .inl g7_0)), (o3, .inr (3, [.ref o7, .ref o1, .int v3_2, .int v3_3, .int v3_4, .ref a3_5, .ref a3_6, .ref a3_7, .ref a3_8, .ref a3_9, .ref a3_10, .ref a3_11, .ref a3_12, .int v3_13, .int v3_14, .ref a3_15, .ref a3_16])), (a3_5, .inl (cyI, n3_5, .inl g3_5)), (a3_8, .inl (cyI, n3_8, .inl g3_8)), (a3_9, .inl (cyI, n3_9, .inl g3_9)), (a3_12, .inl (cyI, n3_12, .inl g3_12)), (o5, .inr (5, [.ref o7, .ref a5_1, .int v5_2, .int v5_3, .int v5_4, .int v5_5, .int v5_6, .int v5_7, .int v5_8, .int v5_9])), (a5_1, .inl (cyI, 400, .inl g5_1))]) [0, 1, 2, 3, 4, 5, 6, 7, 8] (by decide) rfl
                exact W.zret (ty := .boolean) hx hb hr rfl (fun t ht hW => ⟨⟨_, (), rfl, ⟨rfl, rfl⟩, by rw [ht]; exact hP9, va_K.moved hW.alike hK, hD9⟩, hS.F ht⟩) hS.2.2 dX3_join_150
        · replace hf := x_ip c_12 hf
          refine lv_iload hx hb dX3_join_83 (lv_at hl 0 rfl) ?_
          refine lv_bipush (v := 7) hx hb dX3_join_85 (by decide) ?_
          refine lv_icmp_eq (tgt := 93) hx hb dX3_join_87 (by decide) (fun c_49 => ?_) (fun c_49 => ?_)
          · replace hf := x_ip c_49 hf
            refine lv_aload_n hx hb dX3_join_93 rfl (lv_at hl 1 rfl) ?_
            refine va_get (D := (dC, dI)) (ci := 3) (v := .ref o7) (C := RX3) (T := TX3) (N := 17) hx hb hts i_X3_join_X3 hown hK hP 2 rfl rfl 0 (by decide) k_3 (fun _ h9 => h9) rfl dX3_join_94 ?_
            refine lv_iload hx hb dX3_join_97 (lv_at hl 0 rfl) ?_
            refine lv_aload_n hx hb dX3_join_99 rfl (lv_at hl 3 rfl) ?_
            refine va_getN (D := (dC, dI)) (ci := 5) (v := .ref a5_1) (C := RX5) (T := TX5) (N := 10) hx hb hts i_X3_join_X5 hown hK hP 7 rfl rfl 1 (by decide) ((hN.1 ("FlowJudge$Frames", 86, "FlowJudge$Places", "cells", "[I") (List.mem_of_getElem? (i := 33) rfl)).use rfl) (fun _ h9 => h9) rfl dX3_join_100 ?_
            refine lv_iload hx hb dX3_join_103 (lv_at hl 6 rfl) ?_
            obtain ⟨g_50, hf⟩ := x_gu hf
            refine va_iald hx hb hK hP 8 0 rfl rfl (x_gdin g_50) dX3_join_105 ?_
            obtain ⟨r_51, h_51, hf⟩ := x_bi hf
            have hPc := hP.sub (ws' := [(o7, .inr (7, [.ref a7_0, .ref a7_1, .int v7_2])), (a7_0, .inl (cyI, 200, .inl g7_0))]) [0, 1] rfl
            refine va_calli (va_runV (As := [.int (g3_5 (Int32.toNatClampNeg (l4 + l5))), .int (g5_1 (Int32.toNatClampNeg l5))]) (rest := []) ⟨hx, hb, hml, hown, hts⟩ (c_X7_meet l dC dI cyI cyZ cyJ H.size o7 a7_0 a7_1 v7_2 g7_0 (g3_5 (Int32.toNatClampNeg (l4 + l5))) (g5_1 (Int32.toNatClampNeg l5)) r_51 h_51) (cwV 2 hts gX3_join_X7_meet rfl rfl rfl (by decide +kernel) ⟨Nat.le_of_ble_eq_true rfl, Nat.le_of_ble_eq_true rfl⟩) (x_pV hN hK hPc (ci := 7) (q0 := 0) rfl rfl) rfl rfl hl.1 rfl (lv_room (Nat.le_of_ble_eq_true rfl)) dX3_join_106 ⟨Nat.le_of_ble_eq_true rfl, Nat.le_of_ble_eq_true rfl⟩) hS x_nA (x_nf hA hS) (fun q_51 u t H1 locs ht hvm hw hB hz1 hk1 hS => ?_)
            have hP := x_kp hP hk1
            clear ht hvm hB hz1 hk1 t u hPc
            generalize H1 = H at hP hS ⊢
            obtain rfl := hw.symm
            refine lv_istore (lv' := [(7, .int r_51), (6, .int (g3_5 (Int32.toNatClampNeg (l4 + l5)))), (0, .ref o3), (1, .int l1), (2, .ref o5), (3, .int l3), (4, .int l4), (5, .int l5)]) hx hb dX3_join_109 hl (by decide) rfl (fun ls hl => ?_)
            refine lv_iload hx hb dX3_join_111 (lv_at hl 0 rfl) ?_
            refine lv_bipush (v := 7) hx hb dX3_join_113 (by decide) ?_
            refine lv_icmp_ne (tgt := 135) hx hb dX3_join_115 (by decide) (fun c_52 => ?_) (fun c_52 => ?_)
            · replace hf := x_in c_52 hf
              refine lv_iload hx hb dX3_join_135 (lv_at hl 0 rfl) ?_
              refine lv_if_ne (tgt := 151) hx hb dX3_join_137 (by decide) (fun c_53 => ?_) (fun c_53 => ?_)
              · replace hf := x_in c_53 hf
                refine lv_iload_n hx hb dX3_join_151 rfl (lv_at hl 5 rfl) ?_
                refine lv_if_ne (tgt := 162) hx hb dX3_join_152 (by decide) (fun c_54 => ?_) (fun c_54 => ?_)
                · replace hf := x_in c_54 hf
                  refine lv_iconst (v := 1) hx hb dX3_join_162 (by decide) ?_
                  refine lv_goto (tgt := 167) hx hb dX3_join_163 (by decide) ?_
                  refine lv_istore_n (lv' := [(3, .int 1), (7, .int r_51), (6, .int (g3_5 (Int32.toNatClampNeg (l4 + l5)))), (0, .ref o3), (1, .int l1), (2, .ref o5), (4, .int l4), (5, .int l5)]) hx hb dX3_join_167 rfl hl (by decide) rfl (fun ls hl => ?_)
                  refine lv_aload_n hx hb dX3_join_168 rfl (lv_at hl 3 rfl) ?_
                  refine va_get (D := (dC, dI)) (ci := 3) (v := .ref a3_5) (C := RX3) (T := TX3) (N := 17) hx hb hts i_X3_join_X3 hown hK hP 2 rfl rfl 5 (by decide) k_2 (fun _ h9 => h9) rfl dX3_join_169 ?_
                  refine lv_iload hx hb dX3_join_172 (lv_at hl 6 rfl) ?_
                  refine lv_iload hx hb dX3_join_174 (lv_at hl 7 rfl) ?_
                  refine lv_iadd hx hb dX3_join_176 ?_
                  refine lv_iload hx hb dX3_join_177 (lv_at hl 1 rfl) ?_
                  obtain ⟨g_55, hf⟩ := x_gu hf
                  refine va_iast hx hb hK hP hD hS 3 0 rfl rfl (x_gdin g_55) dX3_join_179 (fun H locs hP hD hS => ?_)
                  have hP : va_P (dC, dI) vwCl [(o7, .inr (7, [.ref a7_0, .ref a7_1, .int v7_2])), (a7_0, .inl (cyI, 200, .inl g7_0)), (o3, .inr (3, [.ref o7, .ref o1, .int v3_2, .int v3_3, .int v3_4, .ref a3_5, .ref a3_6, .ref a3_7, .ref a3_8, .ref a3_9, .ref a3_10, .ref a3_11, .ref a3_12, .int v3_13, .int v3_14, .ref a3_15, .ref a3_16])), (a3_5, .inl (cyI, n3_5, .inl (upd g3_5 (Int32.toNatClampNeg (l4 + l5)) r_51))), (a3_8, .inl (cyI, n3_8, .inl g3_8)), (a3_9, .inl (cyI, n3_9, .inl g3_9)), (a3_12, .inl (cyI, n3_12, .inl g3_12)), (o5, .inr (5, [.ref o7, .ref a5_1, .int v5_2, .int v5_3, .int v5_4, .int v5_5, .int v5_6, .int v5_7, .int v5_8, .int v5_9])), (a5_1, .inl (cyI, 400, .inl g5_1))] H := hP
                  have hD : va_D A [(o7, .inr (7, [.ref a7_0, .ref a7_1, .int v7_2])), (a7_0, .inl (cyI, 200, .inl g7_0)), (o3, .inr (3, [.ref o7, .ref o1, .int v3_2, .int v3_3, .int v3_4, .ref a3_5, .ref a3_6, .ref a3_7, .ref a3_8, .ref a3_9, .ref a3_10, .ref a3_11, .ref a3_12, .int v3_13, .int v3_14, .ref a3_15, .ref a3_16])), (a3_5, .inl (cyI, n3_5, .inl (upd g3_5 (Int32.toNatClampNeg (l4 + l5)) r_51))), (a3_8, .inl (cyI, n3_8, .inl g3_8)), (a3_9, .inl (cyI, n3_9, .inl g3_9)), (a3_12, .inl (cyI, n3_12, .inl g3_12)), (o5, .inr (5, [.ref o7, .ref a5_1, .int v5_2, .int v5_3, .int v5_4, .int v5_5, .int v5_6, .int v5_7, .int v5_8, .int v5_9])), (a5_1, .inl (cyI, 400, .inl g5_1))] := hD
                  refine lv_iinc (v := (l5 + 1)) (lv' := [(5, .int (l5 + 1)), (3, .int 1), (7, .int r_51), (6, .int (g3_5 (Int32.toNatClampNeg (l4 + l5)))), (0, .ref o3), (1, .int l1), (2, .ref o5), (4, .int l4)]) hx hb dX3_join_180 hl (k := 7) rfl rfl (by decide) rfl (fun ls hl => ?_)
                  refine lv_goto (tgt := 50) hx hb dX3_join_183 (by decide) ?_
                  exact (hWW _ _ _ _ _).mpr ((ih (0, 1, l5 + 1, upd g3_5 (Int32.toNatClampNeg (l4 + l5)) r_51) _ hf rfl _ _ _ _ rfl) rfl H locs ls hP hD hS (lv_sub hl [4, 5, 6, 1, 7, 0] rfl))
                · replace hf := x_ip c_54 hf
                  refine lv_iload hx hb dX3_join_155 (lv_at hl 0 rfl) ?_
                  refine lv_iload hx hb dX3_join_157 (lv_at hl 1 rfl) ?_
                  refine lv_icmp_eq (tgt := 166) hx hb dX3_join_159 (by decide) (fun c_56 => ?_) (fun c_56 => ?_)
                  · replace hf := x_ip c_56 hf
                    refine lv_iconst (v := 0) hx hb dX3_join_166 (by decide) ?_
                    refine lv_istore_n (lv' := [(3, .int 0), (7, .int r_51), (6, .int (g3_5 (Int32.toNatClampNeg (l4 + l5)))), (0, .ref o3), (1, .int l1), (2, .ref o5), (4, .int l4), (5, .int l5)]) hx hb dX3_join_167 rfl hl (by decide) rfl (fun ls hl => ?_)
                    refine lv_aload_n hx hb dX3_join_168 rfl (lv_at hl 3 rfl) ?_
                    refine va_get (D := (dC, dI)) (ci := 3) (v := .ref a3_5) (C := RX3) (T := TX3) (N := 17) hx hb hts i_X3_join_X3 hown hK hP 2 rfl rfl 5 (by decide) k_2 (fun _ h9 => h9) rfl dX3_join_169 ?_
                    refine lv_iload hx hb dX3_join_172 (lv_at hl 6 rfl) ?_
                    refine lv_iload hx hb dX3_join_174 (lv_at hl 7 rfl) ?_
                    refine lv_iadd hx hb dX3_join_176 ?_
                    refine lv_iload hx hb dX3_join_177 (lv_at hl 1 rfl) ?_
                    obtain ⟨g_57, hf⟩ := x_gu hf
                    refine va_iast hx hb hK hP hD hS 3 0 rfl rfl (x_gdin g_57) dX3_join_179 (fun H locs hP hD hS => ?_)
                    have hP : va_P (dC, dI) vwCl [(o7, .inr (7, [.ref a7_0, .ref a7_1, .int v7_2])), (a7_0, .inl (cyI, 200, .inl g7_0)), (o3, .inr (3, [.ref o7, .ref o1, .int v3_2, .int v3_3, .int v3_4, .ref a3_5, .ref a3_6, .ref a3_7, .ref a3_8, .ref a3_9, .ref a3_10, .ref a3_11, .ref a3_12, .int v3_13, .int v3_14, .ref a3_15, .ref a3_16])), (a3_5, .inl (cyI, n3_5, .inl (upd g3_5 (Int32.toNatClampNeg (l4 + l5)) r_51))), (a3_8, .inl (cyI, n3_8, .inl g3_8)), (a3_9, .inl (cyI, n3_9, .inl g3_9)), (a3_12, .inl (cyI, n3_12, .inl g3_12)), (o5, .inr (5, [.ref o7, .ref a5_1, .int v5_2, .int v5_3, .int v5_4, .int v5_5, .int v5_6, .int v5_7, .int v5_8, .int v5_9])), (a5_1, .inl (cyI, 400, .inl g5_1))] H := hP
                    have hD : va_D A [(o7, .inr (7, [.ref a7_0, .ref a7_1, .int v7_2])), (a7_0, .inl (cyI, 200, .inl g7_0)), (o3, .inr (3, [.ref o7, .ref o1, .int v3_2, .int v3_3, .int v3_4, .ref a3_5, .ref a3_6, .ref a3_7, .ref a3_8, .ref a3_9, .ref a3_10, .ref a3_11, .ref a3_12, .int v3_13, .int v3_14, .ref a3_15, .ref a3_16])), (a3_5, .inl (cyI, n3_5, .inl (upd g3_5 (Int32.toNatClampNeg (l4 + l5)) r_51))), (a3_8, .inl (cyI, n3_8, .inl g3_8)), (a3_9, .inl (cyI, n3_9, .inl g3_9)), (a3_12, .inl (cyI, n3_12, .inl g3_12)), (o5, .inr (5, [.ref o7, .ref a5_1, .int v5_2, .int v5_3, .int v5_4, .int v5_5, .int v5_6, .int v5_7, .int v5_8, .int v5_9])), (a5_1, .inl (cyI, 400, .inl g5_1))] := hD
                    refine lv_iinc (v := (l5 + 1)) (lv' := [(5, .int (l5 + 1)), (3, .int 0), (7, .int r_51), (6, .int (g3_5 (Int32.toNatClampNeg (l4 + l5)))), (0, .ref o3), (1, .int l1), (2, .ref o5), (4, .int l4)]) hx hb dX3_join_180 hl (k := 7) rfl rfl (by decide) rfl (fun ls hl => ?_)
                    refine lv_goto (tgt := 50) hx hb dX3_join_183 (by decide) ?_
                    exact (hWW _ _ _ _ _).mpr ((ih (0, 0, l5 + 1, upd g3_5 (Int32.toNatClampNeg (l4 + l5)) r_51) _ hf rfl _ _ _ _ rfl) rfl H locs ls hP hD hS (lv_sub hl [4, 5, 6, 1, 7, 0] rfl))
                  · replace hf := x_in c_56 hf
                    refine lv_iconst (v := 1) hx hb dX3_join_162 (by decide) ?_
                    refine lv_goto (tgt := 167) hx hb dX3_join_163 (by decide) ?_
                    refine lv_istore_n (lv' := [(3, .int 1), (7, .int r_51), (6, .int (g3_5 (Int32.toNatClampNeg (l4 + l5)))), (0, .ref o3), (1, .int l1), (2, .ref o5), (4, .int l4), (5, .int l5)]) hx hb dX3_join_167 rfl hl (by decide) rfl (fun ls hl => ?_)
                    refine lv_aload_n hx hb dX3_join_168 rfl (lv_at hl 3 rfl) ?_
                    refine va_get (D := (dC, dI)) (ci := 3) (v := .ref a3_5) (C := RX3) (T := TX3) (N := 17) hx hb hts i_X3_join_X3 hown hK hP 2 rfl rfl 5 (by decide) k_2 (fun _ h9 => h9) rfl dX3_join_169 ?_
                    refine lv_iload hx hb dX3_join_172 (lv_at hl 6 rfl) ?_
                    refine lv_iload hx hb dX3_join_174 (lv_at hl 7 rfl) ?_
                    refine lv_iadd hx hb dX3_join_176 ?_
                    refine lv_iload hx hb dX3_join_177 (lv_at hl 1 rfl) ?_
                    obtain ⟨g_58, hf⟩ := x_gu hf
                    refine va_iast hx hb hK hP hD hS 3 0 rfl rfl (x_gdin g_58) dX3_join_179 (fun H locs hP hD hS => ?_)
                    have hP : va_P (dC, dI) vwCl [(o7, .inr (7, [.ref a7_0, .ref a7_1, .int v7_2])), (a7_0, .inl (cyI, 200, .inl g7_0)), (o3, .inr (3, [.ref o7, .ref o1, .int v3_2, .int v3_3, .int v3_4, .ref a3_5, .ref a3_6, .ref a3_7, .ref a3_8, .ref a3_9, .ref a3_10, .ref a3_11, .ref a3_12, .int v3_13, .int v3_14, .ref a3_15, .ref a3_16])), (a3_5, .inl (cyI, n3_5, .inl (upd g3_5 (Int32.toNatClampNeg (l4 + l5)) r_51))), (a3_8, .inl (cyI, n3_8, .inl g3_8)), (a3_9, .inl (cyI, n3_9, .inl g3_9)), (a3_12, .inl (cyI, n3_12, .inl g3_12)), (o5, .inr (5, [.ref o7, .ref a5_1, .int v5_2, .int v5_3, .int v5_4, .int v5_5, .int v5_6, .int v5_7, .int v5_8, .int v5_9])), (a5_1, .inl (cyI, 400, .inl g5_1))] H := hP
                    have hD : va_D A [(o7, .inr (7, [.ref a7_0, .ref a7_1, .int v7_2])), (a7_0, .inl (cyI, 200, .inl g7_0)), (o3, .inr (3, [.ref o7, .ref o1, .int v3_2, .int v3_3, .int v3_4, .ref a3_5, .ref a3_6, .ref a3_7, .ref a3_8, .ref a3_9, .ref a3_10, .ref a3_11, .ref a3_12, .int v3_13, .int v3_14, .ref a3_15, .ref a3_16])), (a3_5, .inl (cyI, n3_5, .inl (upd g3_5 (Int32.toNatClampNeg (l4 + l5)) r_51))), (a3_8, .inl (cyI, n3_8, .inl g3_8)), (a3_9, .inl (cyI, n3_9, .inl g3_9)), (a3_12, .inl (cyI, n3_12, .inl g3_12)), (o5, .inr (5, [.ref o7, .ref a5_1, .int v5_2, .int v5_3, .int v5_4, .int v5_5, .int v5_6, .int v5_7, .int v5_8, .int v5_9])), (a5_1, .inl (cyI, 400, .inl g5_1))] := hD
                    refine lv_iinc (v := (l5 + 1)) (lv' := [(5, .int (l5 + 1)), (3, .int 1), (7, .int r_51), (6, .int (g3_5 (Int32.toNatClampNeg (l4 + l5)))), (0, .ref o3), (1, .int l1), (2, .ref o5), (4, .int l4)]) hx hb dX3_join_180 hl (k := 7) rfl rfl (by decide) rfl (fun ls hl => ?_)
                    refine lv_goto (tgt := 50) hx hb dX3_join_183 (by decide) ?_
                    exact (hWW _ _ _ _ _).mpr ((ih (0, 1, l5 + 1, upd g3_5 (Int32.toNatClampNeg (l4 + l5)) r_51) _ hf rfl _ _ _ _ rfl) rfl H locs ls hP hD hS (lv_sub hl [4, 5, 6, 1, 7, 0] rfl))
              · replace hf := x_ip c_53 hf
                refine lv_iload hx hb dX3_join_140 (lv_at hl 7 rfl) ?_
                refine lv_aload_n hx hb dX3_join_142 rfl (lv_at hl 2 rfl) ?_
                refine va_get (D := (dC, dI)) (ci := 3) (v := .int v3_2) (C := RX3) (T := TX3) (N := 17) hx hb hts i_X3_join_X3 hown hK hP 2 rfl rfl 2 (by decide) k_4 (fun _ h9 => h9) rfl dX3_join_143 ?_
                refine lv_icmp_lt (tgt := 151) hx hb dX3_join_146 (by decide) (fun c_59 => ?_) (fun c_59 => ?_)
                · replace hf := x_ip c_59 hf
                  refine lv_iload_n hx hb dX3_join_151 rfl (lv_at hl 5 rfl) ?_
                  refine lv_if_ne (tgt := 162) hx hb dX3_join_152 (by decide) (fun c_60 => ?_) (fun c_60 => ?_)
                  · replace hf := x_in c_60 hf
                    refine lv_iconst (v := 1) hx hb dX3_join_162 (by decide) ?_
                    refine lv_goto (tgt := 167) hx hb dX3_join_163 (by decide) ?_
                    refine lv_istore_n (lv' := [(3, .int 1), (7, .int r_51), (6, .int (g3_5 (Int32.toNatClampNeg (l4 + l5)))), (0, .ref o3), (1, .int l1), (2, .ref o5), (4, .int l4), (5, .int l5)]) hx hb dX3_join_167 rfl hl (by decide) rfl (fun ls hl => ?_)
                    refine lv_aload_n hx hb dX3_join_168 rfl (lv_at hl 3 rfl) ?_
                    refine va_get (D := (dC, dI)) (ci := 3) (v := .ref a3_5) (C := RX3) (T := TX3) (N := 17) hx hb hts i_X3_join_X3 hown hK hP 2 rfl rfl 5 (by decide) k_2 (fun _ h9 => h9) rfl dX3_join_169 ?_
                    refine lv_iload hx hb dX3_join_172 (lv_at hl 6 rfl) ?_
                    refine lv_iload hx hb dX3_join_174 (lv_at hl 7 rfl) ?_
                    refine lv_iadd hx hb dX3_join_176 ?_
                    refine lv_iload hx hb dX3_join_177 (lv_at hl 1 rfl) ?_
                    obtain ⟨g_61, hf⟩ := x_gu hf
                    refine va_iast hx hb hK hP hD hS 3 0 rfl rfl (x_gdin g_61) dX3_join_179 (fun H locs hP hD hS => ?_)
                    have hP : va_P (dC, dI) vwCl [(o7, .inr (7, [.ref a7_0, .ref a7_1, .int v7_2])), (a7_0, .inl (cyI, 200, .inl g7_0)), (o3, .inr (3, [.ref o7, .ref o1, .int v3_2, .int v3_3, .int v3_4, .ref a3_5, .ref a3_6, .ref a3_7, .ref a3_8, .ref a3_9, .ref a3_10, .ref a3_11, .ref a3_12, .int v3_13, .int v3_14, .ref a3_15, .ref a3_16])), (a3_5, .inl (cyI, n3_5, .inl (upd g3_5 (Int32.toNatClampNeg (l4 + l5)) r_51))), (a3_8, .inl (cyI, n3_8, .inl g3_8)), (a3_9, .inl (cyI, n3_9, .inl g3_9)), (a3_12, .inl (cyI, n3_12, .inl g3_12)), (o5, .inr (5, [.ref o7, .ref a5_1, .int v5_2, .int v5_3, .int v5_4, .int v5_5, .int v5_6, .int v5_7, .int v5_8, .int v5_9])), (a5_1, .inl (cyI, 400, .inl g5_1))] H := hP
                    have hD : va_D A [(o7, .inr (7, [.ref a7_0, .ref a7_1, .int v7_2])), (a7_0, .inl (cyI, 200, .inl g7_0)), (o3, .inr (3, [.ref o7, .ref o1, .int v3_2, .int v3_3, .int v3_4, .ref a3_5, .ref a3_6, .ref a3_7, .ref a3_8, .ref a3_9, .ref a3_10, .ref a3_11, .ref a3_12, .int v3_13, .int v3_14, .ref a3_15, .ref a3_16])), (a3_5, .inl (cyI, n3_5, .inl (upd g3_5 (Int32.toNatClampNeg (l4 + l5)) r_51))), (a3_8, .inl (cyI, n3_8, .inl g3_8)), (a3_9, .inl (cyI, n3_9, .inl g3_9)), (a3_12, .inl (cyI, n3_12, .inl g3_12)), (o5, .inr (5, [.ref o7, .ref a5_1, .int v5_2, .int v5_3, .int v5_4, .int v5_5, .int v5_6, .int v5_7, .int v5_8, .int v5_9])), (a5_1, .inl (cyI, 400, .inl g5_1))] := hD
                    refine lv_iinc (v := (l5 + 1)) (lv' := [(5, .int (l5 + 1)), (3, .int 1), (7, .int r_51), (6, .int (g3_5 (Int32.toNatClampNeg (l4 + l5)))), (0, .ref o3), (1, .int l1), (2, .ref o5), (4, .int l4)]) hx hb dX3_join_180 hl (k := 7) rfl rfl (by decide) rfl (fun ls hl => ?_)
                    refine lv_goto (tgt := 50) hx hb dX3_join_183 (by decide) ?_
                    exact (hWW _ _ _ _ _).mpr ((ih (0, 1, l5 + 1, upd g3_5 (Int32.toNatClampNeg (l4 + l5)) r_51) _ hf rfl _ _ _ _ rfl) rfl H locs ls hP hD hS (lv_sub hl [4, 5, 6, 1, 7, 0] rfl))
                  · replace hf := x_ip c_60 hf
                    refine lv_iload hx hb dX3_join_155 (lv_at hl 0 rfl) ?_
                    refine lv_iload hx hb dX3_join_157 (lv_at hl 1 rfl) ?_
                    refine lv_icmp_eq (tgt := 166) hx hb dX3_join_159 (by decide) (fun c_62 => ?_) (fun c_62 => ?_)
                    · replace hf := x_ip c_62 hf
                      refine lv_iconst (v := 0) hx hb dX3_join_166 (by decide) ?_
                      refine lv_istore_n (lv' := [(3, .int 0), (7, .int r_51), (6, .int (g3_5 (Int32.toNatClampNeg (l4 + l5)))), (0, .ref o3), (1, .int l1), (2, .ref o5), (4, .int l4), (5, .int l5)]) hx hb dX3_join_167 rfl hl (by decide) rfl (fun ls hl => ?_)
                      refine lv_aload_n hx hb dX3_join_168 rfl (lv_at hl 3 rfl) ?_
                      refine va_get (D := (dC, dI)) (ci := 3) (v := .ref a3_5) (C := RX3) (T := TX3) (N := 17) hx hb hts i_X3_join_X3 hown hK hP 2 rfl rfl 5 (by decide) k_2 (fun _ h9 => h9) rfl dX3_join_169 ?_
                      refine lv_iload hx hb dX3_join_172 (lv_at hl 6 rfl) ?_
                      refine lv_iload hx hb dX3_join_174 (lv_at hl 7 rfl) ?_
                      refine lv_iadd hx hb dX3_join_176 ?_
                      refine lv_iload hx hb dX3_join_177 (lv_at hl 1 rfl) ?_
                      obtain ⟨g_63, hf⟩ := x_gu hf
                      refine va_iast hx hb hK hP hD hS 3 0 rfl rfl (x_gdin g_63) dX3_join_179 (fun H locs hP hD hS => ?_)
                      have hP : va_P (dC, dI) vwCl [(o7, .inr (7, [.ref a7_0, .ref a7_1, .int v7_2])), (a7_0, .inl (cyI, 200, .inl g7_0)), (o3, .inr (3, [.ref o7, .ref o1, .int v3_2, .int v3_3, .int v3_4, .ref a3_5, .ref a3_6, .ref a3_7, .ref a3_8, .ref a3_9, .ref a3_10, .ref a3_11, .ref a3_12, .int v3_13, .int v3_14, .ref a3_15, .ref a3_16])), (a3_5, .inl (cyI, n3_5, .inl (upd g3_5 (Int32.toNatClampNeg (l4 + l5)) r_51))), (a3_8, .inl (cyI, n3_8, .inl g3_8)), (a3_9, .inl (cyI, n3_9, .inl g3_9)), (a3_12, .inl (cyI, n3_12, .inl g3_12)), (o5, .inr (5, [.ref o7, .ref a5_1, .int v5_2, .int v5_3, .int v5_4, .int v5_5, .int v5_6, .int v5_7, .int v5_8, .int v5_9])), (a5_1, .inl (cyI, 400, .inl g5_1))] H := hP
                      have hD : va_D A [(o7, .inr (7, [.ref a7_0, .ref a7_1, .int v7_2])), (a7_0, .inl (cyI, 200, .inl g7_0)), (o3, .inr (3, [.ref o7, .ref o1, .int v3_2, .int v3_3, .int v3_4, .ref a3_5, .ref a3_6, .ref a3_7, .ref a3_8, .ref a3_9, .ref a3_10, .ref a3_11, .ref a3_12, .int v3_13, .int v3_14, .ref a3_15, .ref a3_16])), (a3_5, .inl (cyI, n3_5, .inl (upd g3_5 (Int32.toNatClampNeg (l4 + l5)) r_51))), (a3_8, .inl (cyI, n3_8, .inl g3_8)), (a3_9, .inl (cyI, n3_9, .inl g3_9)), (a3_12, .inl (cyI, n3_12, .inl g3_12)), (o5, .inr (5, [.ref o7, .ref a5_1, .int v5_2, .int v5_3, .int v5_4, .int v5_5, .int v5_6, .int v5_7, .int v5_8, .int v5_9])), (a5_1, .inl (cyI, 400, .inl g5_1))] := hD
                      refine lv_iinc (v := (l5 + 1)) (lv' := [(5, .int (l5 + 1)), (3, .int 0), (7, .int r_51), (6, .int (g3_5 (Int32.toNatClampNeg (l4 + l5)))), (0, .ref o3), (1, .int l1), (2, .ref o5), (4, .int l4)]) hx hb dX3_join_180 hl (k := 7) rfl rfl (by decide) rfl (fun ls hl => ?_)
                      refine lv_goto (tgt := 50) hx hb dX3_join_183 (by decide) ?_
                      exact (hWW _ _ _ _ _).mpr ((ih (0, 0, l5 + 1, upd g3_5 (Int32.toNatClampNeg (l4 + l5)) r_51) _ hf rfl _ _ _ _ rfl) rfl H locs ls hP hD hS (lv_sub hl [4, 5, 6, 1, 7, 0] rfl))
                    · replace hf := x_in c_62 hf
                      refine lv_iconst (v := 1) hx hb dX3_join_162 (by decide) ?_
                      refine lv_goto (tgt := 167) hx hb dX3_join_163 (by decide) ?_
                      refine lv_istore_n (lv' := [(3, .int 1), (7, .int r_51), (6, .int (g3_5 (Int32.toNatClampNeg (l4 + l5)))), (0, .ref o3), (1, .int l1), (2, .ref o5), (4, .int l4), (5, .int l5)]) hx hb dX3_join_167 rfl hl (by decide) rfl (fun ls hl => ?_)
                      refine lv_aload_n hx hb dX3_join_168 rfl (lv_at hl 3 rfl) ?_
                      refine va_get (D := (dC, dI)) (ci := 3) (v := .ref a3_5) (C := RX3) (T := TX3) (N := 17) hx hb hts i_X3_join_X3 hown hK hP 2 rfl rfl 5 (by decide) k_2 (fun _ h9 => h9) rfl dX3_join_169 ?_
                      refine lv_iload hx hb dX3_join_172 (lv_at hl 6 rfl) ?_
                      refine lv_iload hx hb dX3_join_174 (lv_at hl 7 rfl) ?_
                      refine lv_iadd hx hb dX3_join_176 ?_
                      refine lv_iload hx hb dX3_join_177 (lv_at hl 1 rfl) ?_
                      obtain ⟨g_64, hf⟩ := x_gu hf
                      refine va_iast hx hb hK hP hD hS 3 0 rfl rfl (x_gdin g_64) dX3_join_179 (fun H locs hP hD hS => ?_)
                      have hP : va_P (dC, dI) vwCl [(o7, .inr (7, [.ref a7_0, .ref a7_1, .int v7_2])), (a7_0, .inl (cyI, 200, .inl g7_0)), (o3, .inr (3, [.ref o7, .ref o1, .int v3_2, .int v3_3, .int v3_4, .ref a3_5, .ref a3_6, .ref a3_7, .ref a3_8, .ref a3_9, .ref a3_10, .ref a3_11, .ref a3_12, .int v3_13, .int v3_14, .ref a3_15, .ref a3_16])), (a3_5, .inl (cyI, n3_5, .inl (upd g3_5 (Int32.toNatClampNeg (l4 + l5)) r_51))), (a3_8, .inl (cyI, n3_8, .inl g3_8)), (a3_9, .inl (cyI, n3_9, .inl g3_9)), (a3_12, .inl (cyI, n3_12, .inl g3_12)), (o5, .inr (5, [.ref o7, .ref a5_1, .int v5_2, .int v5_3, .int v5_4, .int v5_5, .int v5_6, .int v5_7, .int v5_8, .int v5_9])), (a5_1, .inl (cyI, 400, .inl g5_1))] H := hP
                      have hD : va_D A [(o7, .inr (7, [.ref a7_0, .ref a7_1, .int v7_2])), (a7_0, .inl (cyI, 200, .inl g7_0)), (o3, .inr (3, [.ref o7, .ref o1, .int v3_2, .int v3_3, .int v3_4, .ref a3_5, .ref a3_6, .ref a3_7, .ref a3_8, .ref a3_9, .ref a3_10, .ref a3_11, .ref a3_12, .int v3_13, .int v3_14, .ref a3_15, .ref a3_16])), (a3_5, .inl (cyI, n3_5, .inl (upd g3_5 (Int32.toNatClampNeg (l4 + l5)) r_51))), (a3_8, .inl (cyI, n3_8, .inl g3_8)), (a3_9, .inl (cyI, n3_9, .inl g3_9)), (a3_12, .inl (cyI, n3_12, .inl g3_12)), (o5, .inr (5, [.ref o7, .ref a5_1, .int v5_2, .int v5_3, .int v5_4, .int v5_5, .int v5_6, .int v5_7, .int v5_8, .int v5_9])), (a5_1, .inl (cyI, 400, .inl g5_1))] := hD
                      refine lv_iinc (v := (l5 + 1)) (lv' := [(5, .int (l5 + 1)), (3, .int 1), (7, .int r_51), (6, .int (g3_5 (Int32.toNatClampNeg (l4 + l5)))), (0, .ref o3), (1, .int l1), (2, .ref o5), (4, .int l4)]) hx hb dX3_join_180 hl (k := 7) rfl rfl (by decide) rfl (fun ls hl => ?_)
                      refine lv_goto (tgt := 50) hx hb dX3_join_183 (by decide) ?_
                      exact (hWW _ _ _ _ _).mpr ((ih (0, 1, l5 + 1, upd g3_5 (Int32.toNatClampNeg (l4 + l5)) r_51) _ hf rfl _ _ _ _ rfl) rfl H locs ls hP hD hS (lv_sub hl [4, 5, 6, 1, 7, 0] rfl))
                · replace hf := x_in c_59 hf
                  refine lv_iconst (v := 0) hx hb dX3_join_149 (by decide) ?_
                  obtain rfl := Option.some.inj hf
                  have hP9 := hP.sub (ws' := [(o7, .inr (7, [.ref a7_0, .ref a7_1, .int v7_2])), (a7_0, .inl (cyI, 200, .inl g7_0)), (o3, .inr (3, [.ref o7, .ref o1, .int v3_2, .int v3_3, .int v3_4, .ref a3_5, .ref a3_6, .ref a3_7, .ref a3_8, .ref a3_9, .ref a3_10, .ref a3_11, .ref a3_12, .int v3_13, .int v3_14, .ref a3_15, .ref a3_16])), (a3_5, .inl (cyI, n3_5, .inl g3_5)), (a3_8, .inl (cyI, n3_8, .inl g3_8)), (a3_9, .inl (cyI, n3_9, .inl g3_9)), (a3_12, .inl (cyI, n3_12, .inl g3_12)), (o5, .inr (5, [.ref o7, .ref a5_1, .int v5_2, .int v5_3, .int v5_4, .int v5_5, .int v5_6, .int v5_7, .int v5_8, .int v5_9])), (a5_1, .inl (cyI, 400, .inl g5_1))]) [0, 1, 2, 3, 4, 5, 6, 7, 8] rfl
                  have hD9 := hD.sub (ws' := [(o7, .inr (7, [.ref a7_0, .ref a7_1, .int v7_2])), (a7_0, .inl (cyI, 200, .inl g7_0)), (o3, .inr (3, [.ref o7, .ref o1, .int v3_2, .int v3_3, .int v3_4, .ref a3_5, .ref a3_6, .ref a3_7, .ref a3_8, .ref a3_9, .ref a3_10, .ref a3_11, .ref a3_12, .int v3_13, .int v3_14, .ref a3_15, .ref a3_16])), (a3_5, .inl (cyI, n3_5, .inl g3_5)), (a3_8, .inl (cyI, n3_8, .inl g3_8)), (a3_9, .inl (cyI, n3_9, .inl g3_9)), (a3_12, .inl (cyI, n3_12, .inl g3_12)), (o5, .inr (5, [.ref o7, .ref a5_1, .int v5_2, .int v5_3, .int v5_4, .int v5_5, .int v5_6, .int v5_7, .int v5_8, .int v5_9])), (a5_1, .inl (cyI, 400, .inl g5_1))]) [0, 1, 2, 3, 4, 5, 6, 7, 8] (by decide) rfl
                  exact W.zret (ty := .boolean) hx hb hr rfl (fun t ht hW => ⟨⟨_, (), rfl, ⟨rfl, rfl⟩, by rw [ht]; exact hP9, va_K.moved hW.alike hK, hD9⟩, hS.F ht⟩) hS.2.2 dX3_join_150
            · replace hf := x_ip c_52 hf
              refine lv_aload_n hx hb dX3_join_118 rfl (lv_at hl 2 rfl) ?_
              refine lv_iload hx hb dX3_join_119 (lv_at hl 6 rfl) ?_
              refine lv_iload hx hb dX3_join_121 (lv_at hl 7 rfl) ?_
              refine lv_iadd hx hb dX3_join_123 ?_
              refine lv_iconst (v := 1) hx hb dX3_join_124 (by decide) ?_
              refine lv_isub hx hb dX3_join_125 ?_
              obtain ⟨r_65, h_65, hf⟩ := x_bi hf
              have hPc := hP.sub (ws' := [(o3, .inr (3, [.ref o7, .ref o1, .int v3_2, .int v3_3, .int v3_4, .ref a3_5, .ref a3_6, .ref a3_7, .ref a3_8, .ref a3_9, .ref a3_10, .ref a3_11, .ref a3_12, .int v3_13, .int v3_14, .ref a3_15, .ref a3_16])), (a3_5, .inl (cyI, n3_5, .inl g3_5))]) [2, 3] rfl
              refine va_calli (va_runV (As := [.int ((l4 + l5) - (1 : Int32))]) (rest := []) ⟨hx, hb, hml, hown, hts⟩ (c_X3_isWideAt l dC dI cyI cyZ cyJ H.size o3 o7 o1 v3_2 v3_3 v3_4 a3_5 a3_6 a3_7 a3_8 a3_9 a3_10 a3_11 a3_12 v3_13 v3_14 a3_15 a3_16 g3_5 n3_5 ((l4 + l5) - (1 : Int32)) r_65 h_65) (cwV 1 hts gX3_join_X3_isWideAt rfl rfl rfl (by decide +kernel) ⟨Nat.le_of_ble_eq_true rfl, Nat.le_of_ble_eq_true rfl⟩) (x_pV hN hK hPc (ci := 3) (q0 := 0) rfl rfl) rfl rfl hl.1 rfl (lv_room (Nat.le_of_ble_eq_true rfl)) dX3_join_126 ⟨Nat.le_of_ble_eq_true rfl, Nat.le_of_ble_eq_true rfl⟩) hS x_nA (x_nf hA hS) (fun q_65 u t H1 locs ht hvm hw hB hz1 hk1 hS => ?_)
              have hP := x_kp hP hk1
              clear ht hvm hB hz1 hk1 t u hPc
              generalize H1 = H at hP hS ⊢
              obtain ⟨hw, b_65⟩ := hw
              obtain rfl := hw.symm
              refine lv_if_ne (tgt := 135) hx hb dX3_join_129 (by decide) (fun c_66 => ?_) (fun c_66 => ?_)
              · replace hf := x_in c_66 hf
                refine lv_iload hx hb dX3_join_135 (lv_at hl 0 rfl) ?_
                refine lv_if_ne (tgt := 151) hx hb dX3_join_137 (by decide) (fun c_67 => ?_) (fun c_67 => ?_)
                · replace hf := x_in c_67 hf
                  refine lv_iload_n hx hb dX3_join_151 rfl (lv_at hl 5 rfl) ?_
                  refine lv_if_ne (tgt := 162) hx hb dX3_join_152 (by decide) (fun c_68 => ?_) (fun c_68 => ?_)
                  · replace hf := x_in c_68 hf
                    refine lv_iconst (v := 1) hx hb dX3_join_162 (by decide) ?_
                    refine lv_goto (tgt := 167) hx hb dX3_join_163 (by decide) ?_
                    refine lv_istore_n (lv' := [(3, .int 1), (7, .int r_51), (6, .int (g3_5 (Int32.toNatClampNeg (l4 + l5)))), (0, .ref o3), (1, .int l1), (2, .ref o5), (4, .int l4), (5, .int l5)]) hx hb dX3_join_167 rfl hl (by decide) rfl (fun ls hl => ?_)
                    refine lv_aload_n hx hb dX3_join_168 rfl (lv_at hl 3 rfl) ?_
                    refine va_get (D := (dC, dI)) (ci := 3) (v := .ref a3_5) (C := RX3) (T := TX3) (N := 17) hx hb hts i_X3_join_X3 hown hK hP 2 rfl rfl 5 (by decide) k_2 (fun _ h9 => h9) rfl dX3_join_169 ?_
                    refine lv_iload hx hb dX3_join_172 (lv_at hl 6 rfl) ?_
                    refine lv_iload hx hb dX3_join_174 (lv_at hl 7 rfl) ?_
                    refine lv_iadd hx hb dX3_join_176 ?_
                    refine lv_iload hx hb dX3_join_177 (lv_at hl 1 rfl) ?_
                    obtain ⟨g_69, hf⟩ := x_gu hf
                    refine va_iast hx hb hK hP hD hS 3 0 rfl rfl (x_gdin g_69) dX3_join_179 (fun H locs hP hD hS => ?_)
                    have hP : va_P (dC, dI) vwCl [(o7, .inr (7, [.ref a7_0, .ref a7_1, .int v7_2])), (a7_0, .inl (cyI, 200, .inl g7_0)), (o3, .inr (3, [.ref o7, .ref o1, .int v3_2, .int v3_3, .int v3_4, .ref a3_5, .ref a3_6, .ref a3_7, .ref a3_8, .ref a3_9, .ref a3_10, .ref a3_11, .ref a3_12, .int v3_13, .int v3_14, .ref a3_15, .ref a3_16])), (a3_5, .inl (cyI, n3_5, .inl (upd g3_5 (Int32.toNatClampNeg (l4 + l5)) r_51))), (a3_8, .inl (cyI, n3_8, .inl g3_8)), (a3_9, .inl (cyI, n3_9, .inl g3_9)), (a3_12, .inl (cyI, n3_12, .inl g3_12)), (o5, .inr (5, [.ref o7, .ref a5_1, .int v5_2, .int v5_3, .int v5_4, .int v5_5, .int v5_6, .int v5_7, .int v5_8, .int v5_9])), (a5_1, .inl (cyI, 400, .inl g5_1))] H := hP
                    have hD : va_D A [(o7, .inr (7, [.ref a7_0, .ref a7_1, .int v7_2])), (a7_0, .inl (cyI, 200, .inl g7_0)), (o3, .inr (3, [.ref o7, .ref o1, .int v3_2, .int v3_3, .int v3_4, .ref a3_5, .ref a3_6, .ref a3_7, .ref a3_8, .ref a3_9, .ref a3_10, .ref a3_11, .ref a3_12, .int v3_13, .int v3_14, .ref a3_15, .ref a3_16])), (a3_5, .inl (cyI, n3_5, .inl (upd g3_5 (Int32.toNatClampNeg (l4 + l5)) r_51))), (a3_8, .inl (cyI, n3_8, .inl g3_8)), (a3_9, .inl (cyI, n3_9, .inl g3_9)), (a3_12, .inl (cyI, n3_12, .inl g3_12)), (o5, .inr (5, [.ref o7, .ref a5_1, .int v5_2, .int v5_3, .int v5_4, .int v5_5, .int v5_6, .int v5_7, .int v5_8, .int v5_9])), (a5_1, .inl (cyI, 400, .inl g5_1))] := hD
                    refine lv_iinc (v := (l5 + 1)) (lv' := [(5, .int (l5 + 1)), (3, .int 1), (7, .int r_51), (6, .int (g3_5 (Int32.toNatClampNeg (l4 + l5)))), (0, .ref o3), (1, .int l1), (2, .ref o5), (4, .int l4)]) hx hb dX3_join_180 hl (k := 7) rfl rfl (by decide) rfl (fun ls hl => ?_)
                    refine lv_goto (tgt := 50) hx hb dX3_join_183 (by decide) ?_
                    exact (hWW _ _ _ _ _).mpr ((ih (0, 1, l5 + 1, upd g3_5 (Int32.toNatClampNeg (l4 + l5)) r_51) _ hf rfl _ _ _ _ rfl) rfl H locs ls hP hD hS (lv_sub hl [4, 5, 6, 1, 7, 0] rfl))
                  · replace hf := x_ip c_68 hf
                    refine lv_iload hx hb dX3_join_155 (lv_at hl 0 rfl) ?_
                    refine lv_iload hx hb dX3_join_157 (lv_at hl 1 rfl) ?_
                    refine lv_icmp_eq (tgt := 166) hx hb dX3_join_159 (by decide) (fun c_70 => ?_) (fun c_70 => ?_)
                    · replace hf := x_ip c_70 hf
                      refine lv_iconst (v := 0) hx hb dX3_join_166 (by decide) ?_
                      refine lv_istore_n (lv' := [(3, .int 0), (7, .int r_51), (6, .int (g3_5 (Int32.toNatClampNeg (l4 + l5)))), (0, .ref o3), (1, .int l1), (2, .ref o5), (4, .int l4), (5, .int l5)]) hx hb dX3_join_167 rfl hl (by decide) rfl (fun ls hl => ?_)
                      refine lv_aload_n hx hb dX3_join_168 rfl (lv_at hl 3 rfl) ?_
                      refine va_get (D := (dC, dI)) (ci := 3) (v := .ref a3_5) (C := RX3) (T := TX3) (N := 17) hx hb hts i_X3_join_X3 hown hK hP 2 rfl rfl 5 (by decide) k_2 (fun _ h9 => h9) rfl dX3_join_169 ?_
                      refine lv_iload hx hb dX3_join_172 (lv_at hl 6 rfl) ?_
                      refine lv_iload hx hb dX3_join_174 (lv_at hl 7 rfl) ?_
                      refine lv_iadd hx hb dX3_join_176 ?_
                      refine lv_iload hx hb dX3_join_177 (lv_at hl 1 rfl) ?_
                      obtain ⟨g_71, hf⟩ := x_gu hf
                      refine va_iast hx hb hK hP hD hS 3 0 rfl rfl (x_gdin g_71) dX3_join_179 (fun H locs hP hD hS => ?_)
                      have hP : va_P (dC, dI) vwCl [(o7, .inr (7, [.ref a7_0, .ref a7_1, .int v7_2])), (a7_0, .inl (cyI, 200, .inl g7_0)), (o3, .inr (3, [.ref o7, .ref o1, .int v3_2, .int v3_3, .int v3_4, .ref a3_5, .ref a3_6, .ref a3_7, .ref a3_8, .ref a3_9, .ref a3_10, .ref a3_11, .ref a3_12, .int v3_13, .int v3_14, .ref a3_15, .ref a3_16])), (a3_5, .inl (cyI, n3_5, .inl (upd g3_5 (Int32.toNatClampNeg (l4 + l5)) r_51))), (a3_8, .inl (cyI, n3_8, .inl g3_8)), (a3_9, .inl (cyI, n3_9, .inl g3_9)), (a3_12, .inl (cyI, n3_12, .inl g3_12)), (o5, .inr (5, [.ref o7, .ref a5_1, .int v5_2, .int v5_3, .int v5_4, .int v5_5, .int v5_6, .int v5_7, .int v5_8, .int v5_9])), (a5_1, .inl (cyI, 400, .inl g5_1))] H := hP
                      have hD : va_D A [(o7, .inr (7, [.ref a7_0, .ref a7_1, .int v7_2])), (a7_0, .inl (cyI, 200, .inl g7_0)), (o3, .inr (3, [.ref o7, .ref o1, .int v3_2, .int v3_3, .int v3_4, .ref a3_5, .ref a3_6, .ref a3_7, .ref a3_8, .ref a3_9, .ref a3_10, .ref a3_11, .ref a3_12, .int v3_13, .int v3_14, .ref a3_15, .ref a3_16])), (a3_5, .inl (cyI, n3_5, .inl (upd g3_5 (Int32.toNatClampNeg (l4 + l5)) r_51))), (a3_8, .inl (cyI, n3_8, .inl g3_8)), (a3_9, .inl (cyI, n3_9, .inl g3_9)), (a3_12, .inl (cyI, n3_12, .inl g3_12)), (o5, .inr (5, [.ref o7, .ref a5_1, .int v5_2, .int v5_3, .int v5_4, .int v5_5, .int v5_6, .int v5_7, .int v5_8, .int v5_9])), (a5_1, .inl (cyI, 400, .inl g5_1))] := hD
                      refine lv_iinc (v := (l5 + 1)) (lv' := [(5, .int (l5 + 1)), (3, .int 0), (7, .int r_51), (6, .int (g3_5 (Int32.toNatClampNeg (l4 + l5)))), (0, .ref o3), (1, .int l1), (2, .ref o5), (4, .int l4)]) hx hb dX3_join_180 hl (k := 7) rfl rfl (by decide) rfl (fun ls hl => ?_)
                      refine lv_goto (tgt := 50) hx hb dX3_join_183 (by decide) ?_
                      exact (hWW _ _ _ _ _).mpr ((ih (0, 0, l5 + 1, upd g3_5 (Int32.toNatClampNeg (l4 + l5)) r_51) _ hf rfl _ _ _ _ rfl) rfl H locs ls hP hD hS (lv_sub hl [4, 5, 6, 1, 7, 0] rfl))
                    · replace hf := x_in c_70 hf
                      refine lv_iconst (v := 1) hx hb dX3_join_162 (by decide) ?_
                      refine lv_goto (tgt := 167) hx hb dX3_join_163 (by decide) ?_
                      refine lv_istore_n (lv' := [(3, .int 1), (7, .int r_51), (6, .int (g3_5 (Int32.toNatClampNeg (l4 + l5)))), (0, .ref o3), (1, .int l1), (2, .ref o5), (4, .int l4), (5, .int l5)]) hx hb dX3_join_167 rfl hl (by decide) rfl (fun ls hl => ?_)
                      refine lv_aload_n hx hb dX3_join_168 rfl (lv_at hl 3 rfl) ?_
                      refine va_get (D := (dC, dI)) (ci := 3) (v := .ref a3_5) (C := RX3) (T := TX3) (N := 17) hx hb hts i_X3_join_X3 hown hK hP 2 rfl rfl 5 (by decide) k_2 (fun _ h9 => h9) rfl dX3_join_169 ?_
                      refine lv_iload hx hb dX3_join_172 (lv_at hl 6 rfl) ?_
                      refine lv_iload hx hb dX3_join_174 (lv_at hl 7 rfl) ?_
                      refine lv_iadd hx hb dX3_join_176 ?_
                      refine lv_iload hx hb dX3_join_177 (lv_at hl 1 rfl) ?_
                      obtain ⟨g_72, hf⟩ := x_gu hf
                      refine va_iast hx hb hK hP hD hS 3 0 rfl rfl (x_gdin g_72) dX3_join_179 (fun H locs hP hD hS => ?_)
                      have hP : va_P (dC, dI) vwCl [(o7, .inr (7, [.ref a7_0, .ref a7_1, .int v7_2])), (a7_0, .inl (cyI, 200, .inl g7_0)), (o3, .inr (3, [.ref o7, .ref o1, .int v3_2, .int v3_3, .int v3_4, .ref a3_5, .ref a3_6, .ref a3_7, .ref a3_8, .ref a3_9, .ref a3_10, .ref a3_11, .ref a3_12, .int v3_13, .int v3_14, .ref a3_15, .ref a3_16])), (a3_5, .inl (cyI, n3_5, .inl (upd g3_5 (Int32.toNatClampNeg (l4 + l5)) r_51))), (a3_8, .inl (cyI, n3_8, .inl g3_8)), (a3_9, .inl (cyI, n3_9, .inl g3_9)), (a3_12, .inl (cyI, n3_12, .inl g3_12)), (o5, .inr (5, [.ref o7, .ref a5_1, .int v5_2, .int v5_3, .int v5_4, .int v5_5, .int v5_6, .int v5_7, .int v5_8, .int v5_9])), (a5_1, .inl (cyI, 400, .inl g5_1))] H := hP
                      have hD : va_D A [(o7, .inr (7, [.ref a7_0, .ref a7_1, .int v7_2])), (a7_0, .inl (cyI, 200, .inl g7_0)), (o3, .inr (3, [.ref o7, .ref o1, .int v3_2, .int v3_3, .int v3_4, .ref a3_5, .ref a3_6, .ref a3_7, .ref a3_8, .ref a3_9, .ref a3_10, .ref a3_11, .ref a3_12, .int v3_13, .int v3_14, .ref a3_15, .ref a3_16])), (a3_5, .inl (cyI, n3_5, .inl (upd g3_5 (Int32.toNatClampNeg (l4 + l5)) r_51))), (a3_8, .inl (cyI, n3_8, .inl g3_8)), (a3_9, .inl (cyI, n3_9, .inl g3_9)), (a3_12, .inl (cyI, n3_12, .inl g3_12)), (o5, .inr (5, [.ref o7, .ref a5_1, .int v5_2, .int v5_3, .int v5_4, .int v5_5, .int v5_6, .int v5_7, .int v5_8, .int v5_9])), (a5_1, .inl (cyI, 400, .inl g5_1))] := hD
                      refine lv_iinc (v := (l5 + 1)) (lv' := [(5, .int (l5 + 1)), (3, .int 1), (7, .int r_51), (6, .int (g3_5 (Int32.toNatClampNeg (l4 + l5)))), (0, .ref o3), (1, .int l1), (2, .ref o5), (4, .int l4)]) hx hb dX3_join_180 hl (k := 7) rfl rfl (by decide) rfl (fun ls hl => ?_)
                      refine lv_goto (tgt := 50) hx hb dX3_join_183 (by decide) ?_
                      exact (hWW _ _ _ _ _).mpr ((ih (0, 1, l5 + 1, upd g3_5 (Int32.toNatClampNeg (l4 + l5)) r_51) _ hf rfl _ _ _ _ rfl) rfl H locs ls hP hD hS (lv_sub hl [4, 5, 6, 1, 7, 0] rfl))
                · replace hf := x_ip c_67 hf
                  refine lv_iload hx hb dX3_join_140 (lv_at hl 7 rfl) ?_
                  refine lv_aload_n hx hb dX3_join_142 rfl (lv_at hl 2 rfl) ?_
                  refine va_get (D := (dC, dI)) (ci := 3) (v := .int v3_2) (C := RX3) (T := TX3) (N := 17) hx hb hts i_X3_join_X3 hown hK hP 2 rfl rfl 2 (by decide) k_4 (fun _ h9 => h9) rfl dX3_join_143 ?_
                  refine lv_icmp_lt (tgt := 151) hx hb dX3_join_146 (by decide) (fun c_73 => ?_) (fun c_73 => ?_)
                  · replace hf := x_ip c_73 hf
                    refine lv_iload_n hx hb dX3_join_151 rfl (lv_at hl 5 rfl) ?_
                    refine lv_if_ne (tgt := 162) hx hb dX3_join_152 (by decide) (fun c_74 => ?_) (fun c_74 => ?_)
                    · replace hf := x_in c_74 hf
                      refine lv_iconst (v := 1) hx hb dX3_join_162 (by decide) ?_
                      refine lv_goto (tgt := 167) hx hb dX3_join_163 (by decide) ?_
                      refine lv_istore_n (lv' := [(3, .int 1), (7, .int r_51), (6, .int (g3_5 (Int32.toNatClampNeg (l4 + l5)))), (0, .ref o3), (1, .int l1), (2, .ref o5), (4, .int l4), (5, .int l5)]) hx hb dX3_join_167 rfl hl (by decide) rfl (fun ls hl => ?_)
                      refine lv_aload_n hx hb dX3_join_168 rfl (lv_at hl 3 rfl) ?_
                      refine va_get (D := (dC, dI)) (ci := 3) (v := .ref a3_5) (C := RX3) (T := TX3) (N := 17) hx hb hts i_X3_join_X3 hown hK hP 2 rfl rfl 5 (by decide) k_2 (fun _ h9 => h9) rfl dX3_join_169 ?_
                      refine lv_iload hx hb dX3_join_172 (lv_at hl 6 rfl) ?_
                      refine lv_iload hx hb dX3_join_174 (lv_at hl 7 rfl) ?_
                      refine lv_iadd hx hb dX3_join_176 ?_
                      refine lv_iload hx hb dX3_join_177 (lv_at hl 1 rfl) ?_
                      obtain ⟨g_75, hf⟩ := x_gu hf
                      refine va_iast hx hb hK hP hD hS 3 0 rfl rfl (x_gdin g_75) dX3_join_179 (fun H locs hP hD hS => ?_)
                      have hP : va_P (dC, dI) vwCl [(o7, .inr (7, [.ref a7_0, .ref a7_1, .int v7_2])), (a7_0, .inl (cyI, 200, .inl g7_0)), (o3, .inr (3, [.ref o7, .ref o1, .int v3_2, .int v3_3, .int v3_4, .ref a3_5, .ref a3_6, .ref a3_7, .ref a3_8, .ref a3_9, .ref a3_10, .ref a3_11, .ref a3_12, .int v3_13, .int v3_14, .ref a3_15, .ref a3_16])), (a3_5, .inl (cyI, n3_5, .inl (upd g3_5 (Int32.toNatClampNeg (l4 + l5)) r_51))), (a3_8, .inl (cyI, n3_8, .inl g3_8)), (a3_9, .inl (cyI, n3_9, .inl g3_9)), (a3_12, .inl (cyI, n3_12, .inl g3_12)), (o5, .inr (5, [.ref o7, .ref a5_1, .int v5_2, .int v5_3, .int v5_4, .int v5_5, .int v5_6, .int v5_7, .int v5_8, .int v5_9])), (a5_1, .inl (cyI, 400, .inl g5_1))] H := hP
                      have hD : va_D A [(o7, .inr (7, [.ref a7_0, .ref a7_1, .int v7_2])), (a7_0, .inl (cyI, 200, .inl g7_0)), (o3, .inr (3, [.ref o7, .ref o1, .int v3_2, .int v3_3, .int v3_4, .ref a3_5, .ref a3_6, .ref a3_7, .ref a3_8, .ref a3_9, .ref a3_10, .ref a3_11, .ref a3_12, .int v3_13, .int v3_14, .ref a3_15, .ref a3_16])), (a3_5, .inl (cyI, n3_5, .inl (upd g3_5 (Int32.toNatClampNeg (l4 + l5)) r_51))), (a3_8, .inl (cyI, n3_8, .inl g3_8)), (a3_9, .inl (cyI, n3_9, .inl g3_9)), (a3_12, .inl (cyI, n3_12, .inl g3_12)), (o5, .inr (5, [.ref o7, .ref a5_1, .int v5_2, .int v5_3, .int v5_4, .int v5_5, .int v5_6, .int v5_7, .int v5_8, .int v5_9])), (a5_1, .inl (cyI, 400, .inl g5_1))] := hD
                      refine lv_iinc (v := (l5 + 1)) (lv' := [(5, .int (l5 + 1)), (3, .int 1), (7, .int r_51), (6, .int (g3_5 (Int32.toNatClampNeg (l4 + l5)))), (0, .ref o3), (1, .int l1), (2, .ref o5), (4, .int l4)]) hx hb dX3_join_180 hl (k := 7) rfl rfl (by decide) rfl (fun ls hl => ?_)
                      refine lv_goto (tgt := 50) hx hb dX3_join_183 (by decide) ?_
                      exact (hWW _ _ _ _ _).mpr ((ih (0, 1, l5 + 1, upd g3_5 (Int32.toNatClampNeg (l4 + l5)) r_51) _ hf rfl _ _ _ _ rfl) rfl H locs ls hP hD hS (lv_sub hl [4, 5, 6, 1, 7, 0] rfl))
                    · replace hf := x_ip c_74 hf
                      refine lv_iload hx hb dX3_join_155 (lv_at hl 0 rfl) ?_
                      refine lv_iload hx hb dX3_join_157 (lv_at hl 1 rfl) ?_
                      refine lv_icmp_eq (tgt := 166) hx hb dX3_join_159 (by decide) (fun c_76 => ?_) (fun c_76 => ?_)
                      · replace hf := x_ip c_76 hf
                        refine lv_iconst (v := 0) hx hb dX3_join_166 (by decide) ?_
                        refine lv_istore_n (lv' := [(3, .int 0), (7, .int r_51), (6, .int (g3_5 (Int32.toNatClampNeg (l4 + l5)))), (0, .ref o3), (1, .int l1), (2, .ref o5), (4, .int l4), (5, .int l5)]) hx hb dX3_join_167 rfl hl (by decide) rfl (fun ls hl => ?_)
                        refine lv_aload_n hx hb dX3_join_168 rfl (lv_at hl 3 rfl) ?_
                        refine va_get (D := (dC, dI)) (ci := 3) (v := .ref a3_5) (C := RX3) (T := TX3) (N := 17) hx hb hts i_X3_join_X3 hown hK hP 2 rfl rfl 5 (by decide) k_2 (fun _ h9 => h9) rfl dX3_join_169 ?_
                        refine lv_iload hx hb dX3_join_172 (lv_at hl 6 rfl) ?_
                        refine lv_iload hx hb dX3_join_174 (lv_at hl 7 rfl) ?_
                        refine lv_iadd hx hb dX3_join_176 ?_
                        refine lv_iload hx hb dX3_join_177 (lv_at hl 1 rfl) ?_
                        obtain ⟨g_77, hf⟩ := x_gu hf
                        refine va_iast hx hb hK hP hD hS 3 0 rfl rfl (x_gdin g_77) dX3_join_179 (fun H locs hP hD hS => ?_)
                        have hP : va_P (dC, dI) vwCl [(o7, .inr (7, [.ref a7_0, .ref a7_1, .int v7_2])), (a7_0, .inl (cyI, 200, .inl g7_0)), (o3, .inr (3, [.ref o7, .ref o1, .int v3_2, .int v3_3, .int v3_4, .ref a3_5, .ref a3_6, .ref a3_7, .ref a3_8, .ref a3_9, .ref a3_10, .ref a3_11, .ref a3_12, .int v3_13, .int v3_14, .ref a3_15, .ref a3_16])), (a3_5, .inl (cyI, n3_5, .inl (upd g3_5 (Int32.toNatClampNeg (l4 + l5)) r_51))), (a3_8, .inl (cyI, n3_8, .inl g3_8)), (a3_9, .inl (cyI, n3_9, .inl g3_9)), (a3_12, .inl (cyI, n3_12, .inl g3_12)), (o5, .inr (5, [.ref o7, .ref a5_1, .int v5_2, .int v5_3, .int v5_4, .int v5_5, .int v5_6, .int v5_7, .int v5_8, .int v5_9])), (a5_1, .inl (cyI, 400, .inl g5_1))] H := hP
                        have hD : va_D A [(o7, .inr (7, [.ref a7_0, .ref a7_1, .int v7_2])), (a7_0, .inl (cyI, 200, .inl g7_0)), (o3, .inr (3, [.ref o7, .ref o1, .int v3_2, .int v3_3, .int v3_4, .ref a3_5, .ref a3_6, .ref a3_7, .ref a3_8, .ref a3_9, .ref a3_10, .ref a3_11, .ref a3_12, .int v3_13, .int v3_14, .ref a3_15, .ref a3_16])), (a3_5, .inl (cyI, n3_5, .inl (upd g3_5 (Int32.toNatClampNeg (l4 + l5)) r_51))), (a3_8, .inl (cyI, n3_8, .inl g3_8)), (a3_9, .inl (cyI, n3_9, .inl g3_9)), (a3_12, .inl (cyI, n3_12, .inl g3_12)), (o5, .inr (5, [.ref o7, .ref a5_1, .int v5_2, .int v5_3, .int v5_4, .int v5_5, .int v5_6, .int v5_7, .int v5_8, .int v5_9])), (a5_1, .inl (cyI, 400, .inl g5_1))] := hD
                        refine lv_iinc (v := (l5 + 1)) (lv' := [(5, .int (l5 + 1)), (3, .int 0), (7, .int r_51), (6, .int (g3_5 (Int32.toNatClampNeg (l4 + l5)))), (0, .ref o3), (1, .int l1), (2, .ref o5), (4, .int l4)]) hx hb dX3_join_180 hl (k := 7) rfl rfl (by decide) rfl (fun ls hl => ?_)
                        refine lv_goto (tgt := 50) hx hb dX3_join_183 (by decide) ?_
                        exact (hWW _ _ _ _ _).mpr ((ih (0, 0, l5 + 1, upd g3_5 (Int32.toNatClampNeg (l4 + l5)) r_51) _ hf rfl _ _ _ _ rfl) rfl H locs ls hP hD hS (lv_sub hl [4, 5, 6, 1, 7, 0] rfl))
                      · replace hf := x_in c_76 hf
                        refine lv_iconst (v := 1) hx hb dX3_join_162 (by decide) ?_
                        refine lv_goto (tgt := 167) hx hb dX3_join_163 (by decide) ?_
                        refine lv_istore_n (lv' := [(3, .int 1), (7, .int r_51), (6, .int (g3_5 (Int32.toNatClampNeg (l4 + l5)))), (0, .ref o3), (1, .int l1), (2, .ref o5), (4, .int l4), (5, .int l5)]) hx hb dX3_join_167 rfl hl (by decide) rfl (fun ls hl => ?_)
                        refine lv_aload_n hx hb dX3_join_168 rfl (lv_at hl 3 rfl) ?_
                        refine va_get (D := (dC, dI)) (ci := 3) (v := .ref a3_5) (C := RX3) (T := TX3) (N := 17) hx hb hts i_X3_join_X3 hown hK hP 2 rfl rfl 5 (by decide) k_2 (fun _ h9 => h9) rfl dX3_join_169 ?_
                        refine lv_iload hx hb dX3_join_172 (lv_at hl 6 rfl) ?_
                        refine lv_iload hx hb dX3_join_174 (lv_at hl 7 rfl) ?_
                        refine lv_iadd hx hb dX3_join_176 ?_
                        refine lv_iload hx hb dX3_join_177 (lv_at hl 1 rfl) ?_
                        obtain ⟨g_78, hf⟩ := x_gu hf
                        refine va_iast hx hb hK hP hD hS 3 0 rfl rfl (x_gdin g_78) dX3_join_179 (fun H locs hP hD hS => ?_)
                        have hP : va_P (dC, dI) vwCl [(o7, .inr (7, [.ref a7_0, .ref a7_1, .int v7_2])), (a7_0, .inl (cyI, 200, .inl g7_0)), (o3, .inr (3, [.ref o7, .ref o1, .int v3_2, .int v3_3, .int v3_4, .ref a3_5, .ref a3_6, .ref a3_7, .ref a3_8, .ref a3_9, .ref a3_10, .ref a3_11, .ref a3_12, .int v3_13, .int v3_14, .ref a3_15, .ref a3_16])), (a3_5, .inl (cyI, n3_5, .inl (upd g3_5 (Int32.toNatClampNeg (l4 + l5)) r_51))), (a3_8, .inl (cyI, n3_8, .inl g3_8)), (a3_9, .inl (cyI, n3_9, .inl g3_9)), (a3_12, .inl (cyI, n3_12, .inl g3_12)), (o5, .inr (5, [.ref o7, .ref a5_1, .int v5_2, .int v5_3, .int v5_4, .int v5_5, .int v5_6, .int v5_7, .int v5_8, .int v5_9])), (a5_1, .inl (cyI, 400, .inl g5_1))] H := hP
                        have hD : va_D A [(o7, .inr (7, [.ref a7_0, .ref a7_1, .int v7_2])), (a7_0, .inl (cyI, 200, .inl g7_0)), (o3, .inr (3, [.ref o7, .ref o1, .int v3_2, .int v3_3, .int v3_4, .ref a3_5, .ref a3_6, .ref a3_7, .ref a3_8, .ref a3_9, .ref a3_10, .ref a3_11, .ref a3_12, .int v3_13, .int v3_14, .ref a3_15, .ref a3_16])), (a3_5, .inl (cyI, n3_5, .inl (upd g3_5 (Int32.toNatClampNeg (l4 + l5)) r_51))), (a3_8, .inl (cyI, n3_8, .inl g3_8)), (a3_9, .inl (cyI, n3_9, .inl g3_9)), (a3_12, .inl (cyI, n3_12, .inl g3_12)), (o5, .inr (5, [.ref o7, .ref a5_1, .int v5_2, .int v5_3, .int v5_4, .int v5_5, .int v5_6, .int v5_7, .int v5_8, .int v5_9])), (a5_1, .inl (cyI, 400, .inl g5_1))] := hD
                        refine lv_iinc (v := (l5 + 1)) (lv' := [(5, .int (l5 + 1)), (3, .int 1), (7, .int r_51), (6, .int (g3_5 (Int32.toNatClampNeg (l4 + l5)))), (0, .ref o3), (1, .int l1), (2, .ref o5), (4, .int l4)]) hx hb dX3_join_180 hl (k := 7) rfl rfl (by decide) rfl (fun ls hl => ?_)
                        refine lv_goto (tgt := 50) hx hb dX3_join_183 (by decide) ?_
                        exact (hWW _ _ _ _ _).mpr ((ih (0, 1, l5 + 1, upd g3_5 (Int32.toNatClampNeg (l4 + l5)) r_51) _ hf rfl _ _ _ _ rfl) rfl H locs ls hP hD hS (lv_sub hl [4, 5, 6, 1, 7, 0] rfl))
                  · replace hf := x_in c_73 hf
                    refine lv_iconst (v := 0) hx hb dX3_join_149 (by decide) ?_
                    obtain rfl := Option.some.inj hf
                    have hP9 := hP.sub (ws' := [(o7, .inr (7, [.ref a7_0, .ref a7_1, .int v7_2])), (a7_0, .inl (cyI, 200, .inl g7_0)), (o3, .inr (3, [.ref o7, .ref o1, .int v3_2, .int v3_3, .int v3_4, .ref a3_5, .ref a3_6, .ref a3_7, .ref a3_8, .ref a3_9, .ref a3_10, .ref a3_11, .ref a3_12, .int v3_13, .int v3_14, .ref a3_15, .ref a3_16])), (a3_5, .inl (cyI, n3_5, .inl g3_5)), (a3_8, .inl (cyI, n3_8, .inl g3_8)), (a3_9, .inl (cyI, n3_9, .inl g3_9)), (a3_12, .inl (cyI, n3_12, .inl g3_12)), (o5, .inr (5, [.ref o7, .ref a5_1, .int v5_2, .int v5_3, .int v5_4, .int v5_5, .int v5_6, .int v5_7, .int v5_8, .int v5_9])), (a5_1, .inl (cyI, 400, .inl g5_1))]) [0, 1, 2, 3, 4, 5, 6, 7, 8] rfl
                    have hD9 := hD.sub (ws' := [(o7, .inr (7, [.ref a7_0, .ref a7_1, .int v7_2])), (a7_0, .inl (cyI, 200, .inl g7_0)), (o3, .inr (3, [.ref o7, .ref o1, .int v3_2, .int v3_3, .int v3_4, .ref a3_5, .ref a3_6, .ref a3_7, .ref a3_8, .ref a3_9, .ref a3_10, .ref a3_11, .ref a3_12, .int v3_13, .int v3_14, .ref a3_15, .ref a3_16])), (a3_5, .inl (cyI, n3_5, .inl g3_5)), (a3_8, .inl (cyI, n3_8, .inl g3_8)), (a3_9, .inl (cyI, n3_9, .inl g3_9)), (a3_12, .inl (cyI, n3_12, .inl g3_12)), (o5, .inr (5, [.ref o7, .ref a5_1, .int v5_2, .int v5_3, .int v5_4, .int v5_5, .int v5_6, .int v5_7, .int v5_8, .int v5_9])), (a5_1, .inl (cyI, 400, .inl g5_1))]) [0, 1, 2, 3, 4, 5, 6, 7, 8] (by decide) rfl
                    exact W.zret (ty := .boolean) hx hb hr rfl (fun t ht hW => ⟨⟨_, (), rfl, ⟨rfl, rfl⟩, by rw [ht]; exact hP9, va_K.moved hW.alike hK, hD9⟩, hS.F ht⟩) hS.2.2 dX3_join_150
              · replace hf := x_ip c_66 hf
                refine lv_iconst (v := 0) hx hb dX3_join_132 (by decide) ?_
                refine lv_istore (lv' := [(7, .int 0), (6, .int (g3_5 (Int32.toNatClampNeg (l4 + l5)))), (0, .ref o3), (1, .int l1), (2, .ref o5), (3, .int l3), (4, .int l4), (5, .int l5)]) hx hb dX3_join_133 hl (by decide) rfl (fun ls hl => ?_)
                refine lv_iload hx hb dX3_join_135 (lv_at hl 0 rfl) ?_
                refine lv_if_ne (tgt := 151) hx hb dX3_join_137 (by decide) (fun c_79 => absurd (by decide) c_79) (fun _ => ?_)
                refine lv_iload hx hb dX3_join_140 (lv_at hl 7 rfl) ?_
                refine lv_aload_n hx hb dX3_join_142 rfl (lv_at hl 2 rfl) ?_
                refine va_get (D := (dC, dI)) (ci := 3) (v := .int v3_2) (C := RX3) (T := TX3) (N := 17) hx hb hts i_X3_join_X3 hown hK hP 2 rfl rfl 2 (by decide) k_4 (fun _ h9 => h9) rfl dX3_join_143 ?_
                refine lv_icmp_lt (tgt := 151) hx hb dX3_join_146 (by decide) (fun c_80 => ?_) (fun c_80 => ?_)
                · replace hf := x_ip c_80 hf
                  refine lv_iload_n hx hb dX3_join_151 rfl (lv_at hl 5 rfl) ?_
                  refine lv_if_ne (tgt := 162) hx hb dX3_join_152 (by decide) (fun c_81 => ?_) (fun c_81 => ?_)
                  · replace hf := x_in c_81 hf
                    refine lv_iconst (v := 1) hx hb dX3_join_162 (by decide) ?_
                    refine lv_goto (tgt := 167) hx hb dX3_join_163 (by decide) ?_
                    refine lv_istore_n (lv' := [(3, .int 1), (7, .int 0), (6, .int (g3_5 (Int32.toNatClampNeg (l4 + l5)))), (0, .ref o3), (1, .int l1), (2, .ref o5), (4, .int l4), (5, .int l5)]) hx hb dX3_join_167 rfl hl (by decide) rfl (fun ls hl => ?_)
                    refine lv_aload_n hx hb dX3_join_168 rfl (lv_at hl 3 rfl) ?_
                    refine va_get (D := (dC, dI)) (ci := 3) (v := .ref a3_5) (C := RX3) (T := TX3) (N := 17) hx hb hts i_X3_join_X3 hown hK hP 2 rfl rfl 5 (by decide) k_2 (fun _ h9 => h9) rfl dX3_join_169 ?_
                    refine lv_iload hx hb dX3_join_172 (lv_at hl 6 rfl) ?_
                    refine lv_iload hx hb dX3_join_174 (lv_at hl 7 rfl) ?_
                    refine lv_iadd hx hb dX3_join_176 ?_
                    refine lv_iload hx hb dX3_join_177 (lv_at hl 1 rfl) ?_
                    obtain ⟨g_82, hf⟩ := x_gu hf
                    refine va_iast hx hb hK hP hD hS 3 0 rfl rfl (x_gdin g_82) dX3_join_179 (fun H locs hP hD hS => ?_)
                    have hP : va_P (dC, dI) vwCl [(o7, .inr (7, [.ref a7_0, .ref a7_1, .int v7_2])), (a7_0, .inl (cyI, 200, .inl g7_0)), (o3, .inr (3, [.ref o7, .ref o1, .int v3_2, .int v3_3, .int v3_4, .ref a3_5, .ref a3_6, .ref a3_7, .ref a3_8, .ref a3_9, .ref a3_10, .ref a3_11, .ref a3_12, .int v3_13, .int v3_14, .ref a3_15, .ref a3_16])), (a3_5, .inl (cyI, n3_5, .inl (upd g3_5 (Int32.toNatClampNeg (l4 + l5)) 0))), (a3_8, .inl (cyI, n3_8, .inl g3_8)), (a3_9, .inl (cyI, n3_9, .inl g3_9)), (a3_12, .inl (cyI, n3_12, .inl g3_12)), (o5, .inr (5, [.ref o7, .ref a5_1, .int v5_2, .int v5_3, .int v5_4, .int v5_5, .int v5_6, .int v5_7, .int v5_8, .int v5_9])), (a5_1, .inl (cyI, 400, .inl g5_1))] H := hP
                    have hD : va_D A [(o7, .inr (7, [.ref a7_0, .ref a7_1, .int v7_2])), (a7_0, .inl (cyI, 200, .inl g7_0)), (o3, .inr (3, [.ref o7, .ref o1, .int v3_2, .int v3_3, .int v3_4, .ref a3_5, .ref a3_6, .ref a3_7, .ref a3_8, .ref a3_9, .ref a3_10, .ref a3_11, .ref a3_12, .int v3_13, .int v3_14, .ref a3_15, .ref a3_16])), (a3_5, .inl (cyI, n3_5, .inl (upd g3_5 (Int32.toNatClampNeg (l4 + l5)) 0))), (a3_8, .inl (cyI, n3_8, .inl g3_8)), (a3_9, .inl (cyI, n3_9, .inl g3_9)), (a3_12, .inl (cyI, n3_12, .inl g3_12)), (o5, .inr (5, [.ref o7, .ref a5_1, .int v5_2, .int v5_3, .int v5_4, .int v5_5, .int v5_6, .int v5_7, .int v5_8, .int v5_9])), (a5_1, .inl (cyI, 400, .inl g5_1))] := hD
                    refine lv_iinc (v := (l5 + 1)) (lv' := [(5, .int (l5 + 1)), (3, .int 1), (7, .int 0), (6, .int (g3_5 (Int32.toNatClampNeg (l4 + l5)))), (0, .ref o3), (1, .int l1), (2, .ref o5), (4, .int l4)]) hx hb dX3_join_180 hl (k := 7) rfl rfl (by decide) rfl (fun ls hl => ?_)
                    refine lv_goto (tgt := 50) hx hb dX3_join_183 (by decide) ?_
                    exact (hWW _ _ _ _ _).mpr ((ih (0, 1, l5 + 1, upd g3_5 (Int32.toNatClampNeg (l4 + l5)) 0) _ hf rfl _ _ _ _ rfl) rfl H locs ls hP hD hS (lv_sub hl [4, 5, 6, 1, 7, 0] rfl))
                  · replace hf := x_ip c_81 hf
                    refine lv_iload hx hb dX3_join_155 (lv_at hl 0 rfl) ?_
                    refine lv_iload hx hb dX3_join_157 (lv_at hl 1 rfl) ?_
                    refine lv_icmp_eq (tgt := 166) hx hb dX3_join_159 (by decide) (fun c_83 => ?_) (fun c_83 => ?_)
                    · replace hf := x_ip c_83 hf
                      refine lv_iconst (v := 0) hx hb dX3_join_166 (by decide) ?_
                      refine lv_istore_n (lv' := [(3, .int 0), (7, .int 0), (6, .int (g3_5 (Int32.toNatClampNeg (l4 + l5)))), (0, .ref o3), (1, .int l1), (2, .ref o5), (4, .int l4), (5, .int l5)]) hx hb dX3_join_167 rfl hl (by decide) rfl (fun ls hl => ?_)
                      refine lv_aload_n hx hb dX3_join_168 rfl (lv_at hl 3 rfl) ?_
                      refine va_get (D := (dC, dI)) (ci := 3) (v := .ref a3_5) (C := RX3) (T := TX3) (N := 17) hx hb hts i_X3_join_X3 hown hK hP 2 rfl rfl 5 (by decide) k_2 (fun _ h9 => h9) rfl dX3_join_169 ?_
                      refine lv_iload hx hb dX3_join_172 (lv_at hl 6 rfl) ?_
                      refine lv_iload hx hb dX3_join_174 (lv_at hl 7 rfl) ?_
                      refine lv_iadd hx hb dX3_join_176 ?_
                      refine lv_iload hx hb dX3_join_177 (lv_at hl 1 rfl) ?_
                      obtain ⟨g_84, hf⟩ := x_gu hf
                      refine va_iast hx hb hK hP hD hS 3 0 rfl rfl (x_gdin g_84) dX3_join_179 (fun H locs hP hD hS => ?_)
                      have hP : va_P (dC, dI) vwCl [(o7, .inr (7, [.ref a7_0, .ref a7_1, .int v7_2])), (a7_0, .inl (cyI, 200, .inl g7_0)), (o3, .inr (3, [.ref o7, .ref o1, .int v3_2, .int v3_3, .int v3_4, .ref a3_5, .ref a3_6, .ref a3_7, .ref a3_8, .ref a3_9, .ref a3_10, .ref a3_11, .ref a3_12, .int v3_13, .int v3_14, .ref a3_15, .ref a3_16])), (a3_5, .inl (cyI, n3_5, .inl (upd g3_5 (Int32.toNatClampNeg (l4 + l5)) 0))), (a3_8, .inl (cyI, n3_8, .inl g3_8)), (a3_9, .inl (cyI, n3_9, .inl g3_9)), (a3_12, .inl (cyI, n3_12, .inl g3_12)), (o5, .inr (5, [.ref o7, .ref a5_1, .int v5_2, .int v5_3, .int v5_4, .int v5_5, .int v5_6, .int v5_7, .int v5_8, .int v5_9])), (a5_1, .inl (cyI, 400, .inl g5_1))] H := hP
                      have hD : va_D A [(o7, .inr (7, [.ref a7_0, .ref a7_1, .int v7_2])), (a7_0, .inl (cyI, 200, .inl g7_0)), (o3, .inr (3, [.ref o7, .ref o1, .int v3_2, .int v3_3, .int v3_4, .ref a3_5, .ref a3_6, .ref a3_7, .ref a3_8, .ref a3_9, .ref a3_10, .ref a3_11, .ref a3_12, .int v3_13, .int v3_14, .ref a3_15, .ref a3_16])), (a3_5, .inl (cyI, n3_5, .inl (upd g3_5 (Int32.toNatClampNeg (l4 + l5)) 0))), (a3_8, .inl (cyI, n3_8, .inl g3_8)), (a3_9, .inl (cyI, n3_9, .inl g3_9)), (a3_12, .inl (cyI, n3_12, .inl g3_12)), (o5, .inr (5, [.ref o7, .ref a5_1, .int v5_2, .int v5_3, .int v5_4, .int v5_5, .int v5_6, .int v5_7, .int v5_8, .int v5_9])), (a5_1, .inl (cyI, 400, .inl g5_1))] := hD
                      refine lv_iinc (v := (l5 + 1)) (lv' := [(5, .int (l5 + 1)), (3, .int 0), (7, .int 0), (6, .int (g3_5 (Int32.toNatClampNeg (l4 + l5)))), (0, .ref o3), (1, .int l1), (2, .ref o5), (4, .int l4)]) hx hb dX3_join_180 hl (k := 7) rfl rfl (by decide) rfl (fun ls hl => ?_)
                      refine lv_goto (tgt := 50) hx hb dX3_join_183 (by decide) ?_
                      exact (hWW _ _ _ _ _).mpr ((ih (0, 0, l5 + 1, upd g3_5 (Int32.toNatClampNeg (l4 + l5)) 0) _ hf rfl _ _ _ _ rfl) rfl H locs ls hP hD hS (lv_sub hl [4, 5, 6, 1, 7, 0] rfl))
                    · replace hf := x_in c_83 hf
                      refine lv_iconst (v := 1) hx hb dX3_join_162 (by decide) ?_
                      refine lv_goto (tgt := 167) hx hb dX3_join_163 (by decide) ?_
                      refine lv_istore_n (lv' := [(3, .int 1), (7, .int 0), (6, .int (g3_5 (Int32.toNatClampNeg (l4 + l5)))), (0, .ref o3), (1, .int l1), (2, .ref o5), (4, .int l4), (5, .int l5)]) hx hb dX3_join_167 rfl hl (by decide) rfl (fun ls hl => ?_)
                      refine lv_aload_n hx hb dX3_join_168 rfl (lv_at hl 3 rfl) ?_
                      refine va_get (D := (dC, dI)) (ci := 3) (v := .ref a3_5) (C := RX3) (T := TX3) (N := 17) hx hb hts i_X3_join_X3 hown hK hP 2 rfl rfl 5 (by decide) k_2 (fun _ h9 => h9) rfl dX3_join_169 ?_
                      refine lv_iload hx hb dX3_join_172 (lv_at hl 6 rfl) ?_
                      refine lv_iload hx hb dX3_join_174 (lv_at hl 7 rfl) ?_
                      refine lv_iadd hx hb dX3_join_176 ?_
                      refine lv_iload hx hb dX3_join_177 (lv_at hl 1 rfl) ?_
                      obtain ⟨g_85, hf⟩ := x_gu hf
                      refine va_iast hx hb hK hP hD hS 3 0 rfl rfl (x_gdin g_85) dX3_join_179 (fun H locs hP hD hS => ?_)
                      have hP : va_P (dC, dI) vwCl [(o7, .inr (7, [.ref a7_0, .ref a7_1, .int v7_2])), (a7_0, .inl (cyI, 200, .inl g7_0)), (o3, .inr (3, [.ref o7, .ref o1, .int v3_2, .int v3_3, .int v3_4, .ref a3_5, .ref a3_6, .ref a3_7, .ref a3_8, .ref a3_9, .ref a3_10, .ref a3_11, .ref a3_12, .int v3_13, .int v3_14, .ref a3_15, .ref a3_16])), (a3_5, .inl (cyI, n3_5, .inl (upd g3_5 (Int32.toNatClampNeg (l4 + l5)) 0))), (a3_8, .inl (cyI, n3_8, .inl g3_8)), (a3_9, .inl (cyI, n3_9, .inl g3_9)), (a3_12, .inl (cyI, n3_12, .inl g3_12)), (o5, .inr (5, [.ref o7, .ref a5_1, .int v5_2, .int v5_3, .int v5_4, .int v5_5, .int v5_6, .int v5_7, .int v5_8, .int v5_9])), (a5_1, .inl (cyI, 400, .inl g5_1))] H := hP
                      have hD : va_D A [(o7, .inr (7, [.ref a7_0, .ref a7_1, .int v7_2])), (a7_0, .inl (cyI, 200, .inl g7_0)), (o3, .inr (3, [.ref o7, .ref o1, .int v3_2, .int v3_3, .int v3_4, .ref a3_5, .ref a3_6, .ref a3_7, .ref a3_8, .ref a3_9, .ref a3_10, .ref a3_11, .ref a3_12, .int v3_13, .int v3_14, .ref a3_15, .ref a3_16])), (a3_5, .inl (cyI, n3_5, .inl (upd g3_5 (Int32.toNatClampNeg (l4 + l5)) 0))), (a3_8, .inl (cyI, n3_8, .inl g3_8)), (a3_9, .inl (cyI, n3_9, .inl g3_9)), (a3_12, .inl (cyI, n3_12, .inl g3_12)), (o5, .inr (5, [.ref o7, .ref a5_1, .int v5_2, .int v5_3, .int v5_4, .int v5_5, .int v5_6, .int v5_7, .int v5_8, .int v5_9])), (a5_1, .inl (cyI, 400, .inl g5_1))] := hD
                      refine lv_iinc (v := (l5 + 1)) (lv' := [(5, .int (l5 + 1)), (3, .int 1), (7, .int 0), (6, .int (g3_5 (Int32.toNatClampNeg (l4 + l5)))), (0, .ref o3), (1, .int l1), (2, .ref o5), (4, .int l4)]) hx hb dX3_join_180 hl (k := 7) rfl rfl (by decide) rfl (fun ls hl => ?_)
                      refine lv_goto (tgt := 50) hx hb dX3_join_183 (by decide) ?_
                      exact (hWW _ _ _ _ _).mpr ((ih (0, 1, l5 + 1, upd g3_5 (Int32.toNatClampNeg (l4 + l5)) 0) _ hf rfl _ _ _ _ rfl) rfl H locs ls hP hD hS (lv_sub hl [4, 5, 6, 1, 7, 0] rfl))
                · replace hf := x_in c_80 hf
                  refine lv_iconst (v := 0) hx hb dX3_join_149 (by decide) ?_
                  obtain rfl := Option.some.inj hf
                  have hP9 := hP.sub (ws' := [(o7, .inr (7, [.ref a7_0, .ref a7_1, .int v7_2])), (a7_0, .inl (cyI, 200, .inl g7_0)), (o3, .inr (3, [.ref o7, .ref o1, .int v3_2, .int v3_3, .int v3_4, .ref a3_5, .ref a3_6, .ref a3_7, .ref a3_8, .ref a3_9, .ref a3_10, .ref a3_11, .ref a3_12, .int v3_13, .int v3_14, .ref a3_15, .ref a3_16])), (a3_5, .inl (cyI, n3_5, .inl g3_5)), (a3_8, .inl (cyI, n3_8, .inl g3_8)), (a3_9, .inl (cyI, n3_9, .inl g3_9)), (a3_12, .inl (cyI, n3_12, .inl g3_12)), (o5, .inr (5, [.ref o7, .ref a5_1, .int v5_2, .int v5_3, .int v5_4, .int v5_5, .int v5_6, .int v5_7, .int v5_8, .int v5_9])), (a5_1, .inl (cyI, 400, .inl g5_1))]) [0, 1, 2, 3, 4, 5, 6, 7, 8] rfl
                  have hD9 := hD.sub (ws' := [(o7, .inr (7, [.ref a7_0, .ref a7_1, .int v7_2])), (a7_0, .inl (cyI, 200, .inl g7_0)), (o3, .inr (3, [.ref o7, .ref o1, .int v3_2, .int v3_3, .int v3_4, .ref a3_5, .ref a3_6, .ref a3_7, .ref a3_8, .ref a3_9, .ref a3_10, .ref a3_11, .ref a3_12, .int v3_13, .int v3_14, .ref a3_15, .ref a3_16])), (a3_5, .inl (cyI, n3_5, .inl g3_5)), (a3_8, .inl (cyI, n3_8, .inl g3_8)), (a3_9, .inl (cyI, n3_9, .inl g3_9)), (a3_12, .inl (cyI, n3_12, .inl g3_12)), (o5, .inr (5, [.ref o7, .ref a5_1, .int v5_2, .int v5_3, .int v5_4, .int v5_5, .int v5_6, .int v5_7, .int v5_8, .int v5_9])), (a5_1, .inl (cyI, 400, .inl g5_1))]) [0, 1, 2, 3, 4, 5, 6, 7, 8] (by decide) rfl
                  exact W.zret (ty := .boolean) hx hb hr rfl (fun t ht hW => ⟨⟨_, (), rfl, ⟨rfl, rfl⟩, by rw [ht]; exact hP9, va_K.moved hW.alike hK, hD9⟩, hS.F ht⟩) hS.2.2 dX3_join_150
          · replace hf := x_in c_49 hf
            refine lv_goto (tgt := 180) hx hb dX3_join_90 (by decide) ?_
            refine lv_iinc (v := (l5 + 1)) (lv' := [(5, .int (l5 + 1)), (6, .int (g3_5 (Int32.toNatClampNeg (l4 + l5)))), (0, .ref o3), (1, .int l1), (2, .ref o5), (3, .int l3), (4, .int l4)]) hx hb dX3_join_180 hl (k := 6) rfl rfl (by decide) rfl (fun ls hl => ?_)
            refine lv_goto (tgt := 50) hx hb dX3_join_183 (by decide) ?_
            exact (hWW _ _ _ _ _).mpr ((ih (0, l3, l5 + 1, g3_5) _ hf rfl _ _ _ _ rfl) rfl H locs ls hP hD hS (lv_sub hl [2, 3, 4, 5, 6, 0] rfl)))
  refine lv_aload_n hx hb dX3_join_0 rfl (lv_at hl 2 rfl) ?_
  refine va_getN (D := (dC, dI)) (ci := 5) (v := .int v5_3) (C := RX5) (T := TX5) (N := 10) hx hb hts i_X3_join_X5 hown hK hP 7 rfl rfl 3 (by decide) ((hN.1 ("FlowJudge$Frames", 79, "FlowJudge$Places", "top", "I") (List.mem_of_getElem? (i := 31) rfl)).use rfl) (fun _ h9 => h9) rfl dX3_join_1 ?_
  refine lv_aload_n hx hb dX3_join_4 rfl (lv_at hl 0 rfl) ?_
  refine va_get (D := (dC, dI)) (ci := 3) (v := .int v3_2) (C := RX3) (T := TX3) (N := 17) hx hb hts i_X3_join_X3 hown hK hP 2 rfl rfl 2 (by decide) k_4 (fun _ h9 => h9) rfl dX3_join_5 ?_
  refine lv_isub hx hb dX3_join_8 ?_
  refine lv_aload_n hx hb dX3_join_9 rfl (lv_at hl 0 rfl) ?_
  refine va_get (D := (dC, dI)) (ci := 3) (v := .ref a3_8) (C := RX3) (T := TX3) (N := 17) hx hb hts i_X3_join_X3 hown hK hP 2 rfl rfl 8 (by decide) k_5 (fun _ h9 => h9) rfl dX3_join_10 ?_
  refine lv_iload_n hx hb dX3_join_13 rfl (lv_at hl 1 rfl) ?_
  obtain ⟨g_86, hf⟩ := x_gu hf
  refine va_iald hx hb hK hP 4 0 rfl rfl (x_gdin g_86) dX3_join_14 ?_
  refine lv_icmp_eq (tgt := 20) hx hb dX3_join_15 (by decide) (fun c_87 => ?_) (fun c_87 => ?_)
  · replace hf := x_ip c_87 hf
    refine lv_aload_n hx hb dX3_join_20 rfl (lv_at hl 2 rfl) ?_
    refine va_getN (D := (dC, dI)) (ci := 5) (v := .int v5_5) (C := RX5) (T := TX5) (N := 10) hx hb hts i_X3_join_X5 hown hK hP 7 rfl rfl 5 (by decide) ((hN.1 ("FlowJudge$Frames", 84, "FlowJudge$Places", "made", "I") (List.mem_of_getElem? (i := 32) rfl)).use rfl) (fun _ h9 => h9) rfl dX3_join_21 ?_
    refine lv_aload_n hx hb dX3_join_24 rfl (lv_at hl 0 rfl) ?_
    refine va_get (D := (dC, dI)) (ci := 3) (v := .ref a3_9) (C := RX3) (T := TX3) (N := 17) hx hb hts i_X3_join_X3 hown hK hP 2 rfl rfl 9 (by decide) k_1 (fun _ h9 => h9) rfl dX3_join_25 ?_
    refine lv_iload_n hx hb dX3_join_28 rfl (lv_at hl 1 rfl) ?_
    obtain ⟨g_88, hf⟩ := x_gu hf
    refine va_iald hx hb hK hP 5 0 rfl rfl (x_gdin g_88) dX3_join_29 ?_
    refine lv_icmp_ge (tgt := 37) hx hb dX3_join_30 (by decide) (fun c_89 => ?_) (fun c_89 => ?_)
    · replace hf := x_ip c_89 hf
      refine lv_iconst (v := 0) hx hb dX3_join_37 (by decide) ?_
      refine lv_istore_n (lv' := [(3, .int 0), (0, .ref o3), (1, .int p1), (2, .ref o5)]) hx hb dX3_join_38 rfl hl (by decide) rfl (fun ls hl => ?_)
      refine lv_iload_n hx hb dX3_join_39 rfl (lv_at hl 2 rfl) ?_
      refine lv_aload_n hx hb dX3_join_40 rfl (lv_at hl 1 rfl) ?_
      refine va_get (D := (dC, dI)) (ci := 3) (v := .int v3_3) (C := RX3) (T := TX3) (N := 17) hx hb hts i_X3_join_X3 hown hK hP 2 rfl rfl 3 (by decide) k_6 (fun _ h9 => h9) rfl dX3_join_41 ?_
      refine lv_imul hx hb dX3_join_44 ?_
      refine lv_istore (lv' := [(4, .int (p1 * v3_3)), (3, .int 0), (0, .ref o3), (1, .int p1), (2, .ref o5)]) hx hb dX3_join_45 hl (by decide) rfl (fun ls hl => ?_)
      refine lv_iconst (v := 0) hx hb dX3_join_47 (by decide) ?_
      refine lv_istore (lv' := [(5, .int 0), (4, .int (p1 * v3_3)), (3, .int 0), (0, .ref o3), (1, .int p1), (2, .ref o5)]) hx hb dX3_join_48 hl (by decide) rfl (fun ls hl => ?_)
      exact (hWW _ _ _ _ _).mpr ((J p1 (p1 * v3_3) v3_13 v3_14 g3_9 g3_12 (0, 0, 0, g3_5) _ hf rfl _ _ _ _ rfl) rfl H locs ls hP hD hS (lv_sub hl [3, 4, 5, 2, 1, 0] rfl))
    · replace hf := x_in c_89 hf
      refine lv_iconst (v := 1) hx hb dX3_join_33 (by decide) ?_
      refine lv_goto (tgt := 38) hx hb dX3_join_34 (by decide) ?_
      refine lv_istore_n (lv' := [(3, .int 1), (0, .ref o3), (1, .int p1), (2, .ref o5)]) hx hb dX3_join_38 rfl hl (by decide) rfl (fun ls hl => ?_)
      refine lv_iload_n hx hb dX3_join_39 rfl (lv_at hl 2 rfl) ?_
      refine lv_aload_n hx hb dX3_join_40 rfl (lv_at hl 1 rfl) ?_
      refine va_get (D := (dC, dI)) (ci := 3) (v := .int v3_3) (C := RX3) (T := TX3) (N := 17) hx hb hts i_X3_join_X3 hown hK hP 2 rfl rfl 3 (by decide) k_6 (fun _ h9 => h9) rfl dX3_join_41 ?_
      refine lv_imul hx hb dX3_join_44 ?_
      refine lv_istore (lv' := [(4, .int (p1 * v3_3)), (3, .int 1), (0, .ref o3), (1, .int p1), (2, .ref o5)]) hx hb dX3_join_45 hl (by decide) rfl (fun ls hl => ?_)
      refine lv_iconst (v := 0) hx hb dX3_join_47 (by decide) ?_
      refine lv_istore (lv' := [(5, .int 0), (4, .int (p1 * v3_3)), (3, .int 1), (0, .ref o3), (1, .int p1), (2, .ref o5)]) hx hb dX3_join_48 hl (by decide) rfl (fun ls hl => ?_)
      exact (hWW _ _ _ _ _).mpr ((J p1 (p1 * v3_3) v3_13 v3_14 g3_9 g3_12 (0, 1, 0, g3_5) _ hf rfl _ _ _ _ rfl) rfl H locs ls hP hD hS (lv_sub hl [3, 4, 5, 2, 1, 0] rfl))
  · replace hf := x_in c_87 hf
    refine lv_iconst (v := 0) hx hb dX3_join_18 (by decide) ?_
    obtain rfl := Option.some.inj hf
    have hP9 := hP.sub (ws' := [(o7, .inr (7, [.ref a7_0, .ref a7_1, .int v7_2])), (a7_0, .inl (cyI, 200, .inl g7_0)), (o3, .inr (3, [.ref o7, .ref o1, .int v3_2, .int v3_3, .int v3_4, .ref a3_5, .ref a3_6, .ref a3_7, .ref a3_8, .ref a3_9, .ref a3_10, .ref a3_11, .ref a3_12, .int v3_13, .int v3_14, .ref a3_15, .ref a3_16])), (a3_5, .inl (cyI, n3_5, .inl g3_5)), (a3_8, .inl (cyI, n3_8, .inl g3_8)), (a3_9, .inl (cyI, n3_9, .inl g3_9)), (a3_12, .inl (cyI, n3_12, .inl g3_12)), (o5, .inr (5, [.ref o7, .ref a5_1, .int v5_2, .int v5_3, .int v5_4, .int v5_5, .int v5_6, .int v5_7, .int v5_8, .int v5_9])), (a5_1, .inl (cyI, 400, .inl g5_1))]) [0, 1, 2, 3, 4, 5, 6, 7, 8] rfl
    have hD9 := hD.sub (ws' := [(o7, .inr (7, [.ref a7_0, .ref a7_1, .int v7_2])), (a7_0, .inl (cyI, 200, .inl g7_0)), (o3, .inr (3, [.ref o7, .ref o1, .int v3_2, .int v3_3, .int v3_4, .ref a3_5, .ref a3_6, .ref a3_7, .ref a3_8, .ref a3_9, .ref a3_10, .ref a3_11, .ref a3_12, .int v3_13, .int v3_14, .ref a3_15, .ref a3_16])), (a3_5, .inl (cyI, n3_5, .inl g3_5)), (a3_8, .inl (cyI, n3_8, .inl g3_8)), (a3_9, .inl (cyI, n3_9, .inl g3_9)), (a3_12, .inl (cyI, n3_12, .inl g3_12)), (o5, .inr (5, [.ref o7, .ref a5_1, .int v5_2, .int v5_3, .int v5_4, .int v5_5, .int v5_6, .int v5_7, .int v5_8, .int v5_9])), (a5_1, .inl (cyI, 400, .inl g5_1))]) [0, 1, 2, 3, 4, 5, 6, 7, 8] (by decide) rfl
    exact W.zret (ty := .boolean) hx hb hr rfl (fun t ht hW => ⟨⟨_, (), rfl, ⟨rfl, rfl⟩, by rw [ht]; exact hP9, va_K.moved hW.alike hK, hD9⟩, hS.F ht⟩) hS.2.2 dX3_join_19

def f_X3_isAnyAwaited (v3_13 : Int32) : Option (Int32) := if v3_13 = (-1 : Int32) then some 0 else some 1
theorem i_X3_isAnyAwaited_X3 : ∀ w ∈ wsX30, w ∈ wsX3_isAnyAwaited := by decide +kernel
set_option maxHeartbeats 4000000 in
set_option maxRecDepth 100000 in
theorem c_X3_isAnyAwaited (l : Launch) (dC : Nat → ClassId) (dI : Nat → Nat → Nat) (cyI cyZ cyJ : ClassId) (sz : Nat) (o3 : Nat) (o7 : Nat) (o1 : Nat) (v3_2 : Int32) (v3_3 : Int32) (v3_4 : Int32) (a3_5 : Nat) (a3_6 : Nat) (a3_7 : Nat) (a3_8 : Nat) (a3_9 : Nat) (a3_10 : Nat) (a3_11 : Nat) (a3_12 : Nat) (v3_13 : Int32) (v3_14 : Int32) (a3_15 : Nat) (a3_16 : Nat) (R : Int32) (hf : f_X3_isAnyAwaited v3_13 = some R) : Met l yX3_isAnyAwaited wsX3_isAnyAwaited ({ frames := 0, cells := 0, slots := 0, locals := 0 }) (va_Pc [.ref o3] (x_Pre (dC, dI) (x_T cyI cyZ cyJ) [(o3, .inr (3, [.ref o7, .ref o1, .int v3_2, .int v3_3, .int v3_4, .ref a3_5, .ref a3_6, .ref a3_7, .ref a3_8, .ref a3_9, .ref a3_10, .ref a3_11, .ref a3_12, .int v3_13, .int v3_14, .ref a3_15, .ref a3_16]))] sz)) (va_Qi (fun (r : Int32) (_ : Unit) => r = R ∧ x_nb r) (fun _ _ => True) (x_new sz)) 0 0 (x_new sz) := by
  refine Met.ofW (cc := cX3_isAnyAwaited) (maxL := 1) (ret := (some .boolean)) (by decide) rfl ?_
  intro p e s m args below meth c s₁ B hml hv
  obtain ⟨rfl, hsz, hP, hK, hN⟩ := hv
  have hx := B.exec
  have hb := B.bytes
  have hr := B.returns
  have hts := atoms_spec (ws := wsX3_isAnyAwaited) B.pre
  have hown : s.vm.findClass RX3 = some m.cls := findClass_of_methodNamed B.named
  have k_1 := hts (.fieldLink RX3 36 "FlowJudge$Frames" "firstAwaited" "I") (by decide +kernel)
  subst hsz
  have hA : ∀ q : Nat, s.heap.size ≤ q → x_new s.heap.size q := fun _ h => h
  have hS : va_S (x_new s.heap.size) s.heap s.heap [] := va_S.rf
  have hP : va_P (dC, dI) vwCl [(o3, .inr (3, [.ref o7, .ref o1, .int v3_2, .int v3_3, .int v3_4, .ref a3_5, .ref a3_6, .ref a3_7, .ref a3_8, .ref a3_9, .ref a3_10, .ref a3_11, .ref a3_12, .int v3_13, .int v3_14, .ref a3_15, .ref a3_16]))] s.heap := hP
  have hl := lv_entry ([.ref o3]) (n := 1) (Nat.le_of_ble_eq_true rfl)
  rw [lg_entry_eq]
  generalize (lg_sl ([.ref o3]) ++ List.replicate (1 - (lg_sl ([.ref o3])).length) Slot.unset).toArray = ls at hl ⊢
  have hl : lv_has ls 1 [(0, .ref o3)] := hl
  obtain ⟨H, hH⟩ : ∃ z, z = s.heap := ⟨_, rfl⟩
  refine x_here hH ?_
  have hP : va_P (dC, dI) vwCl [(o3, .inr (3, [.ref o7, .ref o1, .int v3_2, .int v3_3, .int v3_4, .ref a3_5, .ref a3_6, .ref a3_7, .ref a3_8, .ref a3_9, .ref a3_10, .ref a3_11, .ref a3_12, .int v3_13, .int v3_14, .ref a3_15, .ref a3_16]))] H := by rw [hH]; exact hP
  have hS : va_S (x_new s.heap.size) s.heap H [] := by rw [hH]; exact va_S.rf
  clear hH
  obtain ⟨locs, hlo⟩ : ∃ z : List Loc, z = [] := ⟨_, rfl⟩
  refine x_herl hlo ?_
  have hS : va_S (x_new s.heap.size) s.heap H locs := by rw [hlo]; exact hS
  clear hlo
  unfold f_X3_isAnyAwaited at hf
  refine lv_aload_n hx hb dX3_isAnyAwaited_0 rfl (lv_at hl 0 rfl) ?_
  refine va_get (D := (dC, dI)) (ci := 3) (v := .int v3_13) (C := RX3) (T := TX3) (N := 17) hx hb hts i_X3_isAnyAwaited_X3 hown hK hP 0 rfl rfl 13 (by decide) k_1 (fun _ h9 => h9) rfl dX3_isAnyAwaited_1 ?_
  refine lv_iconst (v := (-1)) hx hb dX3_isAnyAwaited_4 (by decide) ?_
  refine lv_icmp_eq (tgt := 12) hx hb dX3_isAnyAwaited_5 (by decide) (fun c_1 => ?_) (fun c_1 => ?_)
  · replace hf := x_ip c_1 hf
    refine lv_iconst (v := 0) hx hb dX3_isAnyAwaited_12 (by decide) ?_
    obtain rfl := Option.some.inj hf
    exact W.zret (ty := .boolean) hx hb hr rfl (fun t ht hW => ⟨⟨_, (), rfl, ⟨rfl, rfl⟩, trivial⟩, hS.F ht⟩) hS.2.2 dX3_isAnyAwaited_13
  · replace hf := x_in c_1 hf
    refine lv_iconst (v := 1) hx hb dX3_isAnyAwaited_8 (by decide) ?_
    refine lv_goto (tgt := 13) hx hb dX3_isAnyAwaited_9 (by decide) ?_
    obtain rfl := Option.some.inj hf
    exact W.zret (ty := .boolean) hx hb hr rfl (fun t ht hW => ⟨⟨_, (), rfl, ⟨rfl, rfl⟩, trivial⟩, hS.F ht⟩) hS.2.2 dX3_isAnyAwaited_13

