set_option maxHeartbeats 4000000 in
set_option maxRecDepth 100000 in
theorem c_L_add (l : Launch) (hl9 : l.stackTraces = false) (dC : Nat → ClassId) (dI : Nat → Nat → Nat) (cyI cyZ cyJ : ClassId) (base : Nat) (sz : Nat) (h0 : Nat) (t0 : Nat) (m0 : Nat) (c0 : Nat) (x0 : Nat) (f0 : Nat) (w0 : Nat) (th1 : Nat) (th2 : Nat) (p0 : Int32) (p1 : Int32) (o0 : Nat) (go : Nat → Int64) : Met l yL_add wsL_add ({ frames := 7, cells := 1, slots := 6, locals := 112 }) (va_Pc [.ref h0, .int p0, .int p1, .ref o0] (x_PreX (dC, dI) (x_T cyI cyZ cyJ) [(h0, .inr (8, [.ref t0, .ref m0, .ref c0, .ref x0, .ref f0, .ref w0])), (t0, .inr (7, [.ref th1, .ref th2, .int 4])), (th1, .inl (cyI, 200, .inl x_z0)), (th2, .inl (cyZ, 200, .inl x_face)), (o0, .inl (cyJ, 1, .inr (.inl go)))] base sz)) (va_Qi (fun (r : Int32) (_ : Unit) => r = (f_X8_add p0 p1).1) (fun (_ : Unit) (t : State) => ∃ u : Nat → Int64, va_P (dC, dI) vwCl [(o0, .inl (cyJ, 1, .inr (.inl u)))] t.heap ∧ va_K (dC, dI) vwCl (x_T cyI cyZ cyJ) t ∧ va_D (va_A [(h0, .inr (8, [.ref t0, .ref m0, .ref c0, .ref x0, .ref f0, .ref w0])), (t0, .inr (7, [.ref th1, .ref th2, .int 4])), (th1, .inl (cyI, 200, .inl x_z0)), (th2, .inl (cyZ, 200, .inl x_face)), (o0, .inl (cyJ, 1, .inr (.inl go)))] sz) [(o0, .inl (cyJ, 1, .inr (.inl u)))] ∧ ((f_X8_add p0 p1).1 = 0 → u 0 = Int32.toInt64 (f_X8_add p0 p1).2)) (va_A [(h0, .inr (8, [.ref t0, .ref m0, .ref c0, .ref x0, .ref f0, .ref w0])), (t0, .inr (7, [.ref th1, .ref th2, .int 4])), (th1, .inl (cyI, 200, .inl x_z0)), (th2, .inl (cyZ, 200, .inl x_face)), (o0, .inl (cyJ, 1, .inr (.inl go)))] sz)) 1 6 (va_A [(h0, .inr (8, [.ref t0, .ref m0, .ref c0, .ref x0, .ref f0, .ref w0])), (t0, .inr (7, [.ref th1, .ref th2, .int 4])), (th1, .inl (cyI, 200, .inl x_z0)), (th2, .inl (cyZ, 200, .inl x_face)), (o0, .inl (cyJ, 1, .inr (.inl go)))] sz) := by
  refine va_MetW (cc := cL_add) (maxL := 5) (ret := (some .int)) (hh := [(0, 10, 13, 13), (0, 10, 17, 15)]) (by decide) rfl ?_
  intro p e s m args below meth c s₁ B hml hv
  obtain ⟨rfl, ⟨⟨hsz, hP, hK, hN⟩, hD0⟩, hDb, hbz, hG⟩ := hv
  have hx := B.exec
  have hb := B.bytes
  have hr := B.returns
  have hts := atoms_spec (ws := wsL_add) B.pre
  have hown : s.vm.findClass RL = some m.cls := findClass_of_methodNamed B.named
  have hlocks := B.notSynchronized
  have hTb : c.exceptionTable.toList = [⟨0, 10, 13, 13⟩, ⟨0, 10, 17, 15⟩] := vx_table (x := yL_add) B (hts _ List.mem_cons_self)
  have k_1 := hts (.classLink RL 13 "java/lang/IllegalArgumentException") (by decide +kernel)
  have k_2 := hts (.classLink RL 15 "java/lang/IllegalStateException") (by decide +kernel)
  subst hsz
  have hAb : ∀ q, va_A [(h0, .inr (8, [.ref t0, .ref m0, .ref c0, .ref x0, .ref f0, .ref w0])), (t0, .inr (7, [.ref th1, .ref th2, .int 4])), (th1, .inl (cyI, 200, .inl x_z0)), (th2, .inl (cyZ, 200, .inl x_face)), (o0, .inl (cyJ, 1, .inr (.inl go)))] s.heap.size q → x_new base q := x_Ab hDb hbz
  have hD := hD0.self (sz := s.heap.size)
  generalize hAe : va_A [(h0, .inr (8, [.ref t0, .ref m0, .ref c0, .ref x0, .ref f0, .ref w0])), (t0, .inr (7, [.ref th1, .ref th2, .int 4])), (th1, .inl (cyI, 200, .inl x_z0)), (th2, .inl (cyZ, 200, .inl x_face)), (o0, .inl (cyJ, 1, .inr (.inl go)))] s.heap.size = A at hD hAb ⊢
  have hA : ∀ q : Nat, s.heap.size ≤ q → A q := fun q h => by rw [← hAe]; exact Or.inr h
  have hl := lv_entry ([.ref h0, .int p0, .int p1, .ref o0]) (n := 5) (Nat.le_of_ble_eq_true rfl)
  rw [lg_entry_eq]
  generalize (lg_sl ([.ref h0, .int p0, .int p1, .ref o0]) ++ List.replicate (5 - (lg_sl ([.ref h0, .int p0, .int p1, .ref o0])).length) Slot.unset).toArray = ls at hl ⊢
  have hl : lv_has ls 5 [(0, .ref h0), (1, .int p0), (2, .int p1), (3, .ref o0)] := hl
  obtain ⟨H, hH⟩ : ∃ z, z = s.heap := ⟨_, rfl⟩
  refine x_here hH ?_
  have hP : va_P (dC, dI) vwCl [(h0, .inr (8, [.ref t0, .ref m0, .ref c0, .ref x0, .ref f0, .ref w0])), (t0, .inr (7, [.ref th1, .ref th2, .int 4])), (th1, .inl (cyI, 200, .inl x_z0)), (th2, .inl (cyZ, 200, .inl x_face)), (o0, .inl (cyJ, 1, .inr (.inl go)))] H := by rw [hH]; exact hP
  have hS : va_S A s.heap H [] := by rw [hH]; exact va_S.rf
  clear hH
  refine lv_aload_n hx hb dL_add_0 rfl (lv_at hl 3 rfl) ?_
  refine lv_iconst (v := 0) hx hb dL_add_1 (by decide) ?_
  refine lv_aload_n hx hb dL_add_2 rfl (lv_at hl 0 rfl) ?_
  refine lv_iload_n hx hb dL_add_3 rfl (lv_at hl 1 rfl) ?_
  refine lv_iload_n hx hb dL_add_4 rfl (lv_at hl 2 rfl) ?_
  have hPc := hP.sub (ws' := [(h0, .inr (8, [.ref t0, .ref m0, .ref c0, .ref x0, .ref f0, .ref w0])), (t0, .inr (7, [.ref th1, .ref th2, .int 4])), (th1, .inl (cyI, 200, .inl x_z0)), (th2, .inl (cyZ, 200, .inl x_face))]) [0, 1, 2, 3] rfl
  have hDc := hDb.sub (ws' := [(h0, .inr (8, [.ref t0, .ref m0, .ref c0, .ref x0, .ref f0, .ref w0])), (t0, .inr (7, [.ref th1, .ref th2, .int 4])), (th1, .inl (cyI, 200, .inl x_z0)), (th2, .inl (cyZ, 200, .inl x_face))]) [0, 1, 2, 3] (by decide) rfl
  have hFc := va_free (wc := [(h0, .inr (8, [.ref t0, .ref m0, .ref c0, .ref x0, .ref f0, .ref w0])), (t0, .inr (7, [.ref th1, .ref th2, .int 4])), (th1, .inl (cyI, 200, .inl x_z0)), (th2, .inl (cyZ, 200, .inl x_face))]) hD hS hA [0, 1, 2, 3] rfl
  refine vx_calli (vx_runV (As := [.int p0, .int p1]) (rest := [.int 0, .ref o0]) ⟨hx, hb, hml, hown, hts⟩ (c_X8_add l hl9 dC dI cyI cyZ cyJ base H.size h0 t0 m0 c0 x0 f0 w0 th1 th2 p0 p1) (cwV 2 hts gL_add_X8_add rfl rfl rfl (by decide +kernel) ⟨Nat.le_of_ble_eq_true rfl, Nat.le_of_ble_eq_true rfl⟩) (x_pVX hG hN hK hPc hDc (Nat.le_trans hbz hS.1) (fun q h1 h2 => hS.2.1 q h1 (fun h3 => h2 (hAb q h3))) (ci := 8) (q0 := 0) rfl rfl) rfl rfl hl.1 rfl (lv_room (Nat.le_of_ble_eq_true rfl)) dL_add_5 ⟨Nat.le_of_ble_eq_true rfl, Nat.le_of_ble_eq_true rfl⟩) hS (fun q _ h => hFc q h) hFc (fun q _ h => hFc q h) (fun E ce q9 u t H1 locs ht hvm hpx hE hz1 hk1 hS hce hcv hcl => ?_) (fun r_5 u t H1 locs ht hvm hw hB hz1 hk1 hS => ?_)
  · obtain ⟨hP, hD⟩ := va_join (wr := [(o0, .inl (cyJ, 1, .inr (.inl go)))]) (w1 := []) hP hD [0, 1, 2, 3] [4] rfl rfl (by decide) (by decide) hk1 hFc x_P0 x_D0
    generalize H1 = H at hP hS hce ⊢
    have hP : va_P (dC, dI) vwCl [(o0, .inl (cyJ, 1, .inr (.inl go)))] H := hP
    have hD : va_D A [(o0, .inl (cyJ, 1, .inr (.inl go)))] := hD
    rcases hE with ⟨hk, rfl⟩ | ⟨hk, rfl⟩
    · refine vx_catch (name := "java/lang/IllegalArgumentException") hown [] ⟨0, 10, 13, 13⟩ [⟨0, 10, 17, 15⟩] hTb (fun z hz => by cases hz) (by decide) (by decide) k_1 (hG.2.2.2.1.use rfl) hce hcv hcl ?_
      refine W.widen (k := 1) (n := 6) (Nat.le_of_ble_eq_true rfl) (Nat.le_of_ble_eq_true rfl) ?_
      refine lv_astore (lv' := [(4, .ref q9), (0, .ref h0), (1, .int p0), (2, .int p1), (3, .ref o0)]) hx hb dL_add_13 hl (by decide) rfl (fun ls hl => ?_)
      refine lv_iconst (v := 1) hx hb dL_add_15 (by decide) ?_
      have hP9 := hP.sub (ws' := [(o0, .inl (cyJ, 1, .inr (.inl go)))]) [0] rfl
      have hD9 := hD.sub (ws' := [(o0, .inl (cyJ, 1, .inr (.inl go)))]) [0] (by decide) rfl
      exact W.iret hx hb hr (fun t ht hW => ⟨⟨_, (), rfl, hk.symm, go, by rw [ht]; exact hP9, va_K.moved hW.alike hK, hD9, fun h => absurd (hk.symm.trans h) (by decide)⟩, hS.F ht⟩) hS.2.2 dL_add_16
    · refine vx_catch (name := "java/lang/IllegalStateException") hown [⟨0, 10, 13, 13⟩] ⟨0, 10, 17, 15⟩ [] hTb (fun z hz => Or.inr (by rw [List.mem_singleton.mp hz]; exact ⟨by decide, "java/lang/IllegalArgumentException", k_1, hG.2.2.2.2.2.2.2.2⟩)) (by decide) (by decide) k_2 (hG.2.2.2.2.1.use rfl) hce hcv hcl ?_
      refine W.widen (k := 1) (n := 6) (Nat.le_of_ble_eq_true rfl) (Nat.le_of_ble_eq_true rfl) ?_
      refine lv_astore (lv' := [(4, .ref q9), (0, .ref h0), (1, .int p0), (2, .int p1), (3, .ref o0)]) hx hb dL_add_17 hl (by decide) rfl (fun ls hl => ?_)
      refine lv_iconst (v := 2) hx hb dL_add_19 (by decide) ?_
      have hP9 := hP.sub (ws' := [(o0, .inl (cyJ, 1, .inr (.inl go)))]) [0] rfl
      have hD9 := hD.sub (ws' := [(o0, .inl (cyJ, 1, .inr (.inl go)))]) [0] (by decide) rfl
      exact W.iret hx hb hr (fun t ht hW => ⟨⟨_, (), rfl, hk.symm, go, by rw [ht]; exact hP9, va_K.moved hW.alike hK, hD9, fun h => absurd (hk.symm.trans h) (by decide)⟩, hS.F ht⟩) hS.2.2 dL_add_20
  · obtain ⟨hP, hD⟩ := va_join (wr := [(o0, .inl (cyJ, 1, .inr (.inl go)))]) (w1 := []) hP hD [0, 1, 2, 3] [4] rfl rfl (by decide) (by decide) hk1 hFc x_P0 x_D0
    generalize H1 = H at hP hS ⊢
    have hP : va_P (dC, dI) vwCl [(o0, .inl (cyJ, 1, .inr (.inl go)))] H := hP
    have hD : va_D A [(o0, .inl (cyJ, 1, .inr (.inl go)))] := hD
    refine W.widen (k := 1) (n := 6) (Nat.le_of_ble_eq_true rfl) (Nat.le_of_ble_eq_true rfl) ?_
    refine lv_i2l (v := (Int32.toInt64 r_5)) hx hb dL_add_8 rfl ?_
    refine va_last hx hb hK hP hD hS 0 2 rfl rfl (x_lit _ _ (by decide)) dL_add_9 (fun H locs hP hD hS => ?_)
    have hP : va_P (dC, dI) vwCl [(o0, .inl (cyJ, 1, .inr (.inl (vp_updL go (Int32.toNatClampNeg 0) (Int32.toInt64 r_5)))))] H := hP
    have hD : va_D A [(o0, .inl (cyJ, 1, .inr (.inl (vp_updL go (Int32.toNatClampNeg 0) (Int32.toInt64 r_5)))))] := hD
    refine lv_goto (tgt := 21) hx hb dL_add_10 (by decide) ?_
    refine lv_iconst (v := 0) hx hb dL_add_21 (by decide) ?_
    have hP9 := hP.sub (ws' := [(o0, .inl (cyJ, 1, .inr (.inl (vp_updL go (Int32.toNatClampNeg 0) (Int32.toInt64 r_5)))))]) [0] rfl
    have hD9 := hD.sub (ws' := [(o0, .inl (cyJ, 1, .inr (.inl (vp_updL go (Int32.toNatClampNeg 0) (Int32.toInt64 r_5)))))]) [0] (by decide) rfl
    exact W.iret hx hb hr (fun t ht hW => ⟨⟨_, (), rfl, by rw [hw], (vp_updL go (Int32.toNatClampNeg 0) (Int32.toInt64 r_5)), by rw [ht]; exact hP9, va_K.moved hW.alike hK, hD9, fun _ => by rw [hw]; exact x_out⟩, hS.F ht⟩) hS.2.2 dL_add_22

set_option maxHeartbeats 4000000 in
set_option maxRecDepth 100000 in
theorem c_L_field (l : Launch) (hl9 : l.stackTraces = false) (dC : Nat → ClassId) (dI : Nat → Nat → Nat) (cyI cyZ cyJ : ClassId) (base : Nat) (sz : Nat) (h0 : Nat) (t0 : Nat) (m0 : Nat) (c0 : Nat) (x0 : Nat) (f0 : Nat) (w0 : Nat) (th1 : Nat) (th2 : Nat) (ma0 : Nat) (ma1 : Nat) (ma3 : Nat) (ma4 : Nat) (ma5 : Nat) (ma6 : Nat) (ma7 : Nat) (g0 : Nat → Int32) (g1 : Nat → Int32) (p0 : Int32) (p1 : Int32) (o0 : Nat) (go : Nat → Int64) : Met l yL_field wsL_field ({ frames := 7, cells := 1, slots := 6, locals := 112 }) (va_Pc [.ref h0, .int p0, .int p1, .ref o0] (x_PreX (dC, dI) (x_T cyI cyZ cyJ) [(h0, .inr (8, [.ref t0, .ref m0, .ref c0, .ref x0, .ref f0, .ref w0])), (t0, .inr (7, [.ref th1, .ref th2, .int 4])), (m0, .inr (4, [.ref ma0, .ref ma1, .int 0, .ref ma3, .ref ma4, .ref ma5, .ref ma6, .ref ma7, .int 0])), (ma0, .inl (cyI, 100, .inl g0)), (ma1, .inl (cyI, 100, .inl g1)), (o0, .inl (cyJ, 1, .inr (.inl go)))] base sz)) (va_Qi (fun (r : Int32) (_ : Unit) => r = (f_X8_field p0 p1).1) (fun (_ : Unit) (t : State) => ∃ u : Nat → Int64, va_P (dC, dI) vwCl [(o0, .inl (cyJ, 1, .inr (.inl u)))] t.heap ∧ va_K (dC, dI) vwCl (x_T cyI cyZ cyJ) t ∧ va_D (va_A [(h0, .inr (8, [.ref t0, .ref m0, .ref c0, .ref x0, .ref f0, .ref w0])), (t0, .inr (7, [.ref th1, .ref th2, .int 4])), (m0, .inr (4, [.ref ma0, .ref ma1, .int 0, .ref ma3, .ref ma4, .ref ma5, .ref ma6, .ref ma7, .int 0])), (ma0, .inl (cyI, 100, .inl g0)), (ma1, .inl (cyI, 100, .inl g1)), (o0, .inl (cyJ, 1, .inr (.inl go)))] sz) [(o0, .inl (cyJ, 1, .inr (.inl u)))] ∧ ((f_X8_field p0 p1).1 = 0 → u 0 = Int32.toInt64 (f_X8_field p0 p1).2)) (va_A [(h0, .inr (8, [.ref t0, .ref m0, .ref c0, .ref x0, .ref f0, .ref w0])), (t0, .inr (7, [.ref th1, .ref th2, .int 4])), (m0, .inr (4, [.ref ma0, .ref ma1, .int 0, .ref ma3, .ref ma4, .ref ma5, .ref ma6, .ref ma7, .int 0])), (ma0, .inl (cyI, 100, .inl g0)), (ma1, .inl (cyI, 100, .inl g1)), (o0, .inl (cyJ, 1, .inr (.inl go)))] sz)) 1 6 (va_A [(h0, .inr (8, [.ref t0, .ref m0, .ref c0, .ref x0, .ref f0, .ref w0])), (t0, .inr (7, [.ref th1, .ref th2, .int 4])), (m0, .inr (4, [.ref ma0, .ref ma1, .int 0, .ref ma3, .ref ma4, .ref ma5, .ref ma6, .ref ma7, .int 0])), (ma0, .inl (cyI, 100, .inl g0)), (ma1, .inl (cyI, 100, .inl g1)), (o0, .inl (cyJ, 1, .inr (.inl go)))] sz) := by
  refine va_MetW (cc := cL_field) (maxL := 5) (ret := (some .int)) (hh := [(0, 10, 13, 13), (0, 10, 17, 15)]) (by decide) rfl ?_
  intro p e s m args below meth c s₁ B hml hv
  obtain ⟨rfl, ⟨⟨hsz, hP, hK, hN⟩, hD0⟩, hDb, hbz, hG⟩ := hv
  have hx := B.exec
  have hb := B.bytes
  have hr := B.returns
  have hts := atoms_spec (ws := wsL_field) B.pre
  have hown : s.vm.findClass RL = some m.cls := findClass_of_methodNamed B.named
  have hlocks := B.notSynchronized
  have hTb : c.exceptionTable.toList = [⟨0, 10, 13, 13⟩, ⟨0, 10, 17, 15⟩] := vx_table (x := yL_field) B (hts _ List.mem_cons_self)
  have k_1 := hts (.classLink RL 13 "java/lang/IllegalArgumentException") (by decide +kernel)
  have k_2 := hts (.classLink RL 15 "java/lang/IllegalStateException") (by decide +kernel)
  subst hsz
  have hAb : ∀ q, va_A [(h0, .inr (8, [.ref t0, .ref m0, .ref c0, .ref x0, .ref f0, .ref w0])), (t0, .inr (7, [.ref th1, .ref th2, .int 4])), (m0, .inr (4, [.ref ma0, .ref ma1, .int 0, .ref ma3, .ref ma4, .ref ma5, .ref ma6, .ref ma7, .int 0])), (ma0, .inl (cyI, 100, .inl g0)), (ma1, .inl (cyI, 100, .inl g1)), (o0, .inl (cyJ, 1, .inr (.inl go)))] s.heap.size q → x_new base q := x_Ab hDb hbz
  have hD := hD0.self (sz := s.heap.size)
  generalize hAe : va_A [(h0, .inr (8, [.ref t0, .ref m0, .ref c0, .ref x0, .ref f0, .ref w0])), (t0, .inr (7, [.ref th1, .ref th2, .int 4])), (m0, .inr (4, [.ref ma0, .ref ma1, .int 0, .ref ma3, .ref ma4, .ref ma5, .ref ma6, .ref ma7, .int 0])), (ma0, .inl (cyI, 100, .inl g0)), (ma1, .inl (cyI, 100, .inl g1)), (o0, .inl (cyJ, 1, .inr (.inl go)))] s.heap.size = A at hD hAb ⊢
  have hA : ∀ q : Nat, s.heap.size ≤ q → A q := fun q h => by rw [← hAe]; exact Or.inr h
  have hl := lv_entry ([.ref h0, .int p0, .int p1, .ref o0]) (n := 5) (Nat.le_of_ble_eq_true rfl)
  rw [lg_entry_eq]
  generalize (lg_sl ([.ref h0, .int p0, .int p1, .ref o0]) ++ List.replicate (5 - (lg_sl ([.ref h0, .int p0, .int p1, .ref o0])).length) Slot.unset).toArray = ls at hl ⊢
  have hl : lv_has ls 5 [(0, .ref h0), (1, .int p0), (2, .int p1), (3, .ref o0)] := hl
  obtain ⟨H, hH⟩ : ∃ z, z = s.heap := ⟨_, rfl⟩
  refine x_here hH ?_
  have hP : va_P (dC, dI) vwCl [(h0, .inr (8, [.ref t0, .ref m0, .ref c0, .ref x0, .ref f0, .ref w0])), (t0, .inr (7, [.ref th1, .ref th2, .int 4])), (m0, .inr (4, [.ref ma0, .ref ma1, .int 0, .ref ma3, .ref ma4, .ref ma5, .ref ma6, .ref ma7, .int 0])), (ma0, .inl (cyI, 100, .inl g0)), (ma1, .inl (cyI, 100, .inl g1)), (o0, .inl (cyJ, 1, .inr (.inl go)))] H := by rw [hH]; exact hP
  have hS : va_S A s.heap H [] := by rw [hH]; exact va_S.rf
  clear hH
  refine lv_aload_n hx hb dL_field_0 rfl (lv_at hl 3 rfl) ?_
  refine lv_iconst (v := 0) hx hb dL_field_1 (by decide) ?_
  refine lv_aload_n hx hb dL_field_2 rfl (lv_at hl 0 rfl) ?_
  refine lv_iload_n hx hb dL_field_3 rfl (lv_at hl 1 rfl) ?_
  refine lv_iload_n hx hb dL_field_4 rfl (lv_at hl 2 rfl) ?_
  have hPc := hP.sub (ws' := [(h0, .inr (8, [.ref t0, .ref m0, .ref c0, .ref x0, .ref f0, .ref w0])), (t0, .inr (7, [.ref th1, .ref th2, .int 4])), (m0, .inr (4, [.ref ma0, .ref ma1, .int 0, .ref ma3, .ref ma4, .ref ma5, .ref ma6, .ref ma7, .int 0])), (ma0, .inl (cyI, 100, .inl g0)), (ma1, .inl (cyI, 100, .inl g1))]) [0, 1, 2, 3, 4] rfl
  have hDc := hDb.sub (ws' := [(h0, .inr (8, [.ref t0, .ref m0, .ref c0, .ref x0, .ref f0, .ref w0])), (t0, .inr (7, [.ref th1, .ref th2, .int 4])), (m0, .inr (4, [.ref ma0, .ref ma1, .int 0, .ref ma3, .ref ma4, .ref ma5, .ref ma6, .ref ma7, .int 0])), (ma0, .inl (cyI, 100, .inl g0)), (ma1, .inl (cyI, 100, .inl g1))]) [0, 1, 2, 3, 4] (by decide) rfl
  have hFc := va_free (wc := [(h0, .inr (8, [.ref t0, .ref m0, .ref c0, .ref x0, .ref f0, .ref w0])), (t0, .inr (7, [.ref th1, .ref th2, .int 4])), (m0, .inr (4, [.ref ma0, .ref ma1, .int 0, .ref ma3, .ref ma4, .ref ma5, .ref ma6, .ref ma7, .int 0])), (ma0, .inl (cyI, 100, .inl g0)), (ma1, .inl (cyI, 100, .inl g1))]) hD hS hA [0, 1, 2, 3, 4] rfl
  refine vx_calli (vx_runV (As := [.int p0, .int p1]) (rest := [.int 0, .ref o0]) ⟨hx, hb, hml, hown, hts⟩ (c_X8_field l hl9 dC dI cyI cyZ cyJ base H.size h0 t0 m0 c0 x0 f0 w0 th1 th2 ma0 ma1 ma3 ma4 ma5 ma6 ma7 g0 g1 p0 p1) (cwV 2 hts gL_field_X8_field rfl rfl rfl (by decide +kernel) ⟨Nat.le_of_ble_eq_true rfl, Nat.le_of_ble_eq_true rfl⟩) (x_pVX hG hN hK hPc hDc (Nat.le_trans hbz hS.1) (fun q h1 h2 => hS.2.1 q h1 (fun h3 => h2 (hAb q h3))) (ci := 8) (q0 := 0) rfl rfl) rfl rfl hl.1 rfl (lv_room (Nat.le_of_ble_eq_true rfl)) dL_field_5 ⟨Nat.le_of_ble_eq_true rfl, Nat.le_of_ble_eq_true rfl⟩) hS (fun q _ h => hFc q h) hFc (fun q _ h => hFc q h) (fun E ce q9 u t H1 locs ht hvm hpx hE hz1 hk1 hS hce hcv hcl => ?_) (fun r_5 u t H1 locs ht hvm hw hB hz1 hk1 hS => ?_)
  · obtain ⟨hP, hD⟩ := va_join (wr := [(o0, .inl (cyJ, 1, .inr (.inl go)))]) (w1 := []) hP hD [0, 1, 2, 3, 4] [5] rfl rfl (by decide) (by decide) hk1 hFc x_P0 x_D0
    generalize H1 = H at hP hS hce ⊢
    have hP : va_P (dC, dI) vwCl [(o0, .inl (cyJ, 1, .inr (.inl go)))] H := hP
    have hD : va_D A [(o0, .inl (cyJ, 1, .inr (.inl go)))] := hD
    rcases hE with ⟨hk, rfl⟩ | ⟨hk, rfl⟩
    · refine vx_catch (name := "java/lang/IllegalArgumentException") hown [] ⟨0, 10, 13, 13⟩ [⟨0, 10, 17, 15⟩] hTb (fun z hz => by cases hz) (by decide) (by decide) k_1 (hG.2.2.2.1.use rfl) hce hcv hcl ?_
      refine W.widen (k := 1) (n := 6) (Nat.le_of_ble_eq_true rfl) (Nat.le_of_ble_eq_true rfl) ?_
      refine lv_astore (lv' := [(4, .ref q9), (0, .ref h0), (1, .int p0), (2, .int p1), (3, .ref o0)]) hx hb dL_field_13 hl (by decide) rfl (fun ls hl => ?_)
      refine lv_iconst (v := 1) hx hb dL_field_15 (by decide) ?_
      have hP9 := hP.sub (ws' := [(o0, .inl (cyJ, 1, .inr (.inl go)))]) [0] rfl
      have hD9 := hD.sub (ws' := [(o0, .inl (cyJ, 1, .inr (.inl go)))]) [0] (by decide) rfl
      exact W.iret hx hb hr (fun t ht hW => ⟨⟨_, (), rfl, hk.symm, go, by rw [ht]; exact hP9, va_K.moved hW.alike hK, hD9, fun h => absurd (hk.symm.trans h) (by decide)⟩, hS.F ht⟩) hS.2.2 dL_field_16
    · refine vx_catch (name := "java/lang/IllegalStateException") hown [⟨0, 10, 13, 13⟩] ⟨0, 10, 17, 15⟩ [] hTb (fun z hz => Or.inr (by rw [List.mem_singleton.mp hz]; exact ⟨by decide, "java/lang/IllegalArgumentException", k_1, hG.2.2.2.2.2.2.2.2⟩)) (by decide) (by decide) k_2 (hG.2.2.2.2.1.use rfl) hce hcv hcl ?_
      refine W.widen (k := 1) (n := 6) (Nat.le_of_ble_eq_true rfl) (Nat.le_of_ble_eq_true rfl) ?_
      refine lv_astore (lv' := [(4, .ref q9), (0, .ref h0), (1, .int p0), (2, .int p1), (3, .ref o0)]) hx hb dL_field_17 hl (by decide) rfl (fun ls hl => ?_)
      refine lv_iconst (v := 2) hx hb dL_field_19 (by decide) ?_
      have hP9 := hP.sub (ws' := [(o0, .inl (cyJ, 1, .inr (.inl go)))]) [0] rfl
      have hD9 := hD.sub (ws' := [(o0, .inl (cyJ, 1, .inr (.inl go)))]) [0] (by decide) rfl
      exact W.iret hx hb hr (fun t ht hW => ⟨⟨_, (), rfl, hk.symm, go, by rw [ht]; exact hP9, va_K.moved hW.alike hK, hD9, fun h => absurd (hk.symm.trans h) (by decide)⟩, hS.F ht⟩) hS.2.2 dL_field_20
  · obtain ⟨hP, hD⟩ := va_join (wr := [(o0, .inl (cyJ, 1, .inr (.inl go)))]) (w1 := []) hP hD [0, 1, 2, 3, 4] [5] rfl rfl (by decide) (by decide) hk1 hFc x_P0 x_D0
    generalize H1 = H at hP hS ⊢
    have hP : va_P (dC, dI) vwCl [(o0, .inl (cyJ, 1, .inr (.inl go)))] H := hP
    have hD : va_D A [(o0, .inl (cyJ, 1, .inr (.inl go)))] := hD
    refine W.widen (k := 1) (n := 6) (Nat.le_of_ble_eq_true rfl) (Nat.le_of_ble_eq_true rfl) ?_
    refine lv_i2l (v := (Int32.toInt64 r_5)) hx hb dL_field_8 rfl ?_
    refine va_last hx hb hK hP hD hS 0 2 rfl rfl (x_lit _ _ (by decide)) dL_field_9 (fun H locs hP hD hS => ?_)
    have hP : va_P (dC, dI) vwCl [(o0, .inl (cyJ, 1, .inr (.inl (vp_updL go (Int32.toNatClampNeg 0) (Int32.toInt64 r_5)))))] H := hP
    have hD : va_D A [(o0, .inl (cyJ, 1, .inr (.inl (vp_updL go (Int32.toNatClampNeg 0) (Int32.toInt64 r_5)))))] := hD
    refine lv_goto (tgt := 21) hx hb dL_field_10 (by decide) ?_
    refine lv_iconst (v := 0) hx hb dL_field_21 (by decide) ?_
    have hP9 := hP.sub (ws' := [(o0, .inl (cyJ, 1, .inr (.inl (vp_updL go (Int32.toNatClampNeg 0) (Int32.toInt64 r_5)))))]) [0] rfl
    have hD9 := hD.sub (ws' := [(o0, .inl (cyJ, 1, .inr (.inl (vp_updL go (Int32.toNatClampNeg 0) (Int32.toInt64 r_5)))))]) [0] (by decide) rfl
    exact W.iret hx hb hr (fun t ht hW => ⟨⟨_, (), rfl, by rw [hw], (vp_updL go (Int32.toNatClampNeg 0) (Int32.toInt64 r_5)), by rw [ht]; exact hP9, va_K.moved hW.alike hK, hD9, fun _ => by rw [hw]; exact x_out⟩, hS.F ht⟩) hS.2.2 dL_field_22

set_option maxHeartbeats 4000000 in
set_option maxRecDepth 100000 in
theorem c_L_shape (l : Launch) (hl9 : l.stackTraces = false) (dC : Nat → ClassId) (dI : Nat → Nat → Nat) (cyI cyZ cyJ : ClassId) (base : Nat) (sz : Nat) (h0 : Nat) (t0 : Nat) (m0 : Nat) (c0 : Nat) (x0 : Nat) (f0 : Nat) (w0 : Nat) (th1 : Nat) (th2 : Nat) (ma0 : Nat) (ma1 : Nat) (ma3 : Nat) (ma4 : Nat) (ma5 : Nat) (ma6 : Nat) (ma7 : Nat) (g3 : Nat → Int32) (g4 : Nat → Int32) (g5 : Nat → Int32) (p0 : Int32) (p1 : Int32) (p2 : Int32) (o0 : Nat) (go : Nat → Int64) : Met l yL_shape wsL_shape ({ frames := 7, cells := 1, slots := 6, locals := 113 }) (va_Pc [.ref h0, .int p0, .int p1, .int p2, .ref o0] (x_PreX (dC, dI) (x_T cyI cyZ cyJ) [(h0, .inr (8, [.ref t0, .ref m0, .ref c0, .ref x0, .ref f0, .ref w0])), (t0, .inr (7, [.ref th1, .ref th2, .int 4])), (th2, .inl (cyZ, 200, .inl x_face)), (m0, .inr (4, [.ref ma0, .ref ma1, .int 0, .ref ma3, .ref ma4, .ref ma5, .ref ma6, .ref ma7, .int 0])), (ma3, .inl (cyI, 100, .inl g3)), (ma4, .inl (cyI, 100, .inl g4)), (ma5, .inl (cyZ, 100, .inl g5)), (o0, .inl (cyJ, 1, .inr (.inl go)))] base sz)) (va_Qi (fun (r : Int32) (_ : Unit) => r = (f_X8_shape p0 p1 p2).1) (fun (_ : Unit) (t : State) => ∃ u : Nat → Int64, va_P (dC, dI) vwCl [(o0, .inl (cyJ, 1, .inr (.inl u)))] t.heap ∧ va_K (dC, dI) vwCl (x_T cyI cyZ cyJ) t ∧ va_D (va_A [(h0, .inr (8, [.ref t0, .ref m0, .ref c0, .ref x0, .ref f0, .ref w0])), (t0, .inr (7, [.ref th1, .ref th2, .int 4])), (th2, .inl (cyZ, 200, .inl x_face)), (m0, .inr (4, [.ref ma0, .ref ma1, .int 0, .ref ma3, .ref ma4, .ref ma5, .ref ma6, .ref ma7, .int 0])), (ma3, .inl (cyI, 100, .inl g3)), (ma4, .inl (cyI, 100, .inl g4)), (ma5, .inl (cyZ, 100, .inl g5)), (o0, .inl (cyJ, 1, .inr (.inl go)))] sz) [(o0, .inl (cyJ, 1, .inr (.inl u)))] ∧ ((f_X8_shape p0 p1 p2).1 = 0 → u 0 = Int32.toInt64 (f_X8_shape p0 p1 p2).2)) (va_A [(h0, .inr (8, [.ref t0, .ref m0, .ref c0, .ref x0, .ref f0, .ref w0])), (t0, .inr (7, [.ref th1, .ref th2, .int 4])), (th2, .inl (cyZ, 200, .inl x_face)), (m0, .inr (4, [.ref ma0, .ref ma1, .int 0, .ref ma3, .ref ma4, .ref ma5, .ref ma6, .ref ma7, .int 0])), (ma3, .inl (cyI, 100, .inl g3)), (ma4, .inl (cyI, 100, .inl g4)), (ma5, .inl (cyZ, 100, .inl g5)), (o0, .inl (cyJ, 1, .inr (.inl go)))] sz)) 1 6 (va_A [(h0, .inr (8, [.ref t0, .ref m0, .ref c0, .ref x0, .ref f0, .ref w0])), (t0, .inr (7, [.ref th1, .ref th2, .int 4])), (th2, .inl (cyZ, 200, .inl x_face)), (m0, .inr (4, [.ref ma0, .ref ma1, .int 0, .ref ma3, .ref ma4, .ref ma5, .ref ma6, .ref ma7, .int 0])), (ma3, .inl (cyI, 100, .inl g3)), (ma4, .inl (cyI, 100, .inl g4)), (ma5, .inl (cyZ, 100, .inl g5)), (o0, .inl (cyJ, 1, .inr (.inl go)))] sz) := by
  refine va_MetW (cc := cL_shape) (maxL := 6) (ret := (some .int)) (hh := [(0, 12, 15, 13), (0, 12, 19, 15)]) (by decide) rfl ?_
  intro p e s m args below meth c s₁ B hml hv
  obtain ⟨rfl, ⟨⟨hsz, hP, hK, hN⟩, hD0⟩, hDb, hbz, hG⟩ := hv
  have hx := B.exec
  have hb := B.bytes
  have hr := B.returns
  have hts := atoms_spec (ws := wsL_shape) B.pre
  have hown : s.vm.findClass RL = some m.cls := findClass_of_methodNamed B.named
  have hlocks := B.notSynchronized
  have hTb : c.exceptionTable.toList = [⟨0, 12, 15, 13⟩, ⟨0, 12, 19, 15⟩] := vx_table (x := yL_shape) B (hts _ List.mem_cons_self)
  have k_1 := hts (.classLink RL 13 "java/lang/IllegalArgumentException") (by decide +kernel)
  have k_2 := hts (.classLink RL 15 "java/lang/IllegalStateException") (by decide +kernel)
  subst hsz
  have hAb : ∀ q, va_A [(h0, .inr (8, [.ref t0, .ref m0, .ref c0, .ref x0, .ref f0, .ref w0])), (t0, .inr (7, [.ref th1, .ref th2, .int 4])), (th2, .inl (cyZ, 200, .inl x_face)), (m0, .inr (4, [.ref ma0, .ref ma1, .int 0, .ref ma3, .ref ma4, .ref ma5, .ref ma6, .ref ma7, .int 0])), (ma3, .inl (cyI, 100, .inl g3)), (ma4, .inl (cyI, 100, .inl g4)), (ma5, .inl (cyZ, 100, .inl g5)), (o0, .inl (cyJ, 1, .inr (.inl go)))] s.heap.size q → x_new base q := x_Ab hDb hbz
  have hD := hD0.self (sz := s.heap.size)
  generalize hAe : va_A [(h0, .inr (8, [.ref t0, .ref m0, .ref c0, .ref x0, .ref f0, .ref w0])), (t0, .inr (7, [.ref th1, .ref th2, .int 4])), (th2, .inl (cyZ, 200, .inl x_face)), (m0, .inr (4, [.ref ma0, .ref ma1, .int 0, .ref ma3, .ref ma4, .ref ma5, .ref ma6, .ref ma7, .int 0])), (ma3, .inl (cyI, 100, .inl g3)), (ma4, .inl (cyI, 100, .inl g4)), (ma5, .inl (cyZ, 100, .inl g5)), (o0, .inl (cyJ, 1, .inr (.inl go)))] s.heap.size = A at hD hAb ⊢
  have hA : ∀ q : Nat, s.heap.size ≤ q → A q := fun q h => by rw [← hAe]; exact Or.inr h
  have hl := lv_entry ([.ref h0, .int p0, .int p1, .int p2, .ref o0]) (n := 6) (Nat.le_of_ble_eq_true rfl)
  rw [lg_entry_eq]
  generalize (lg_sl ([.ref h0, .int p0, .int p1, .int p2, .ref o0]) ++ List.replicate (6 - (lg_sl ([.ref h0, .int p0, .int p1, .int p2, .ref o0])).length) Slot.unset).toArray = ls at hl ⊢
  have hl : lv_has ls 6 [(0, .ref h0), (1, .int p0), (2, .int p1), (3, .int p2), (4, .ref o0)] := hl
  obtain ⟨H, hH⟩ : ∃ z, z = s.heap := ⟨_, rfl⟩
  refine x_here hH ?_
  have hP : va_P (dC, dI) vwCl [(h0, .inr (8, [.ref t0, .ref m0, .ref c0, .ref x0, .ref f0, .ref w0])), (t0, .inr (7, [.ref th1, .ref th2, .int 4])), (th2, .inl (cyZ, 200, .inl x_face)), (m0, .inr (4, [.ref ma0, .ref ma1, .int 0, .ref ma3, .ref ma4, .ref ma5, .ref ma6, .ref ma7, .int 0])), (ma3, .inl (cyI, 100, .inl g3)), (ma4, .inl (cyI, 100, .inl g4)), (ma5, .inl (cyZ, 100, .inl g5)), (o0, .inl (cyJ, 1, .inr (.inl go)))] H := by rw [hH]; exact hP
  have hS : va_S A s.heap H [] := by rw [hH]; exact va_S.rf
  clear hH
  refine lv_aload hx hb dL_shape_0 (lv_at hl 4 rfl) ?_
  refine lv_iconst (v := 0) hx hb dL_shape_2 (by decide) ?_
  refine lv_aload_n hx hb dL_shape_3 rfl (lv_at hl 0 rfl) ?_
  refine lv_iload_n hx hb dL_shape_4 rfl (lv_at hl 1 rfl) ?_
  refine lv_iload_n hx hb dL_shape_5 rfl (lv_at hl 2 rfl) ?_
  refine lv_iload_n hx hb dL_shape_6 rfl (lv_at hl 3 rfl) ?_
  have hPc := hP.sub (ws' := [(h0, .inr (8, [.ref t0, .ref m0, .ref c0, .ref x0, .ref f0, .ref w0])), (t0, .inr (7, [.ref th1, .ref th2, .int 4])), (th2, .inl (cyZ, 200, .inl x_face)), (m0, .inr (4, [.ref ma0, .ref ma1, .int 0, .ref ma3, .ref ma4, .ref ma5, .ref ma6, .ref ma7, .int 0])), (ma3, .inl (cyI, 100, .inl g3)), (ma4, .inl (cyI, 100, .inl g4)), (ma5, .inl (cyZ, 100, .inl g5))]) [0, 1, 2, 3, 4, 5, 6] rfl
  have hDc := hDb.sub (ws' := [(h0, .inr (8, [.ref t0, .ref m0, .ref c0, .ref x0, .ref f0, .ref w0])), (t0, .inr (7, [.ref th1, .ref th2, .int 4])), (th2, .inl (cyZ, 200, .inl x_face)), (m0, .inr (4, [.ref ma0, .ref ma1, .int 0, .ref ma3, .ref ma4, .ref ma5, .ref ma6, .ref ma7, .int 0])), (ma3, .inl (cyI, 100, .inl g3)), (ma4, .inl (cyI, 100, .inl g4)), (ma5, .inl (cyZ, 100, .inl g5))]) [0, 1, 2, 3, 4, 5, 6] (by decide) rfl
  have hFc := va_free (wc := [(h0, .inr (8, [.ref t0, .ref m0, .ref c0, .ref x0, .ref f0, .ref w0])), (t0, .inr (7, [.ref th1, .ref th2, .int 4])), (th2, .inl (cyZ, 200, .inl x_face)), (m0, .inr (4, [.ref ma0, .ref ma1, .int 0, .ref ma3, .ref ma4, .ref ma5, .ref ma6, .ref ma7, .int 0])), (ma3, .inl (cyI, 100, .inl g3)), (ma4, .inl (cyI, 100, .inl g4)), (ma5, .inl (cyZ, 100, .inl g5))]) hD hS hA [0, 1, 2, 3, 4, 5, 6] rfl
  refine vx_calli (vx_runV (As := [.int p0, .int p1, .int p2]) (rest := [.int 0, .ref o0]) ⟨hx, hb, hml, hown, hts⟩ (c_X8_shape l hl9 dC dI cyI cyZ cyJ base H.size h0 t0 m0 c0 x0 f0 w0 th1 th2 ma0 ma1 ma3 ma4 ma5 ma6 ma7 g3 g4 g5 p0 p1 p2) (cwV 3 hts gL_shape_X8_shape rfl rfl rfl (by decide +kernel) ⟨Nat.le_of_ble_eq_true rfl, Nat.le_of_ble_eq_true rfl⟩) (x_pVX hG hN hK hPc hDc (Nat.le_trans hbz hS.1) (fun q h1 h2 => hS.2.1 q h1 (fun h3 => h2 (hAb q h3))) (ci := 8) (q0 := 0) rfl rfl) rfl rfl hl.1 rfl (lv_room (Nat.le_of_ble_eq_true rfl)) dL_shape_7 ⟨Nat.le_of_ble_eq_true rfl, Nat.le_of_ble_eq_true rfl⟩) hS (fun q _ h => hFc q h) hFc (fun q _ h => hFc q h) (fun E ce q9 u t H1 locs ht hvm hpx hE hz1 hk1 hS hce hcv hcl => ?_) (fun r_5 u t H1 locs ht hvm hw hB hz1 hk1 hS => ?_)
  · obtain ⟨hP, hD⟩ := va_join (wr := [(o0, .inl (cyJ, 1, .inr (.inl go)))]) (w1 := []) hP hD [0, 1, 2, 3, 4, 5, 6] [7] rfl rfl (by decide) (by decide) hk1 hFc x_P0 x_D0
    generalize H1 = H at hP hS hce ⊢
    have hP : va_P (dC, dI) vwCl [(o0, .inl (cyJ, 1, .inr (.inl go)))] H := hP
    have hD : va_D A [(o0, .inl (cyJ, 1, .inr (.inl go)))] := hD
    rcases hE with ⟨hk, rfl⟩ | ⟨hk, rfl⟩
    · refine vx_catch (name := "java/lang/IllegalArgumentException") hown [] ⟨0, 12, 15, 13⟩ [⟨0, 12, 19, 15⟩] hTb (fun z hz => by cases hz) (by decide) (by decide) k_1 (hG.2.2.2.1.use rfl) hce hcv hcl ?_
      refine W.widen (k := 1) (n := 6) (Nat.le_of_ble_eq_true rfl) (Nat.le_of_ble_eq_true rfl) ?_
      refine lv_astore (lv' := [(5, .ref q9), (0, .ref h0), (1, .int p0), (2, .int p1), (3, .int p2), (4, .ref o0)]) hx hb dL_shape_15 hl (by decide) rfl (fun ls hl => ?_)
      refine lv_iconst (v := 1) hx hb dL_shape_17 (by decide) ?_
      have hP9 := hP.sub (ws' := [(o0, .inl (cyJ, 1, .inr (.inl go)))]) [0] rfl
      have hD9 := hD.sub (ws' := [(o0, .inl (cyJ, 1, .inr (.inl go)))]) [0] (by decide) rfl
      exact W.iret hx hb hr (fun t ht hW => ⟨⟨_, (), rfl, hk.symm, go, by rw [ht]; exact hP9, va_K.moved hW.alike hK, hD9, fun h => absurd (hk.symm.trans h) (by decide)⟩, hS.F ht⟩) hS.2.2 dL_shape_18
    · refine vx_catch (name := "java/lang/IllegalStateException") hown [⟨0, 12, 15, 13⟩] ⟨0, 12, 19, 15⟩ [] hTb (fun z hz => Or.inr (by rw [List.mem_singleton.mp hz]; exact ⟨by decide, "java/lang/IllegalArgumentException", k_1, hG.2.2.2.2.2.2.2.2⟩)) (by decide) (by decide) k_2 (hG.2.2.2.2.1.use rfl) hce hcv hcl ?_
      refine W.widen (k := 1) (n := 6) (Nat.le_of_ble_eq_true rfl) (Nat.le_of_ble_eq_true rfl) ?_
      refine lv_astore (lv' := [(5, .ref q9), (0, .ref h0), (1, .int p0), (2, .int p1), (3, .int p2), (4, .ref o0)]) hx hb dL_shape_19 hl (by decide) rfl (fun ls hl => ?_)
      refine lv_iconst (v := 2) hx hb dL_shape_21 (by decide) ?_
      have hP9 := hP.sub (ws' := [(o0, .inl (cyJ, 1, .inr (.inl go)))]) [0] rfl
      have hD9 := hD.sub (ws' := [(o0, .inl (cyJ, 1, .inr (.inl go)))]) [0] (by decide) rfl
      exact W.iret hx hb hr (fun t ht hW => ⟨⟨_, (), rfl, hk.symm, go, by rw [ht]; exact hP9, va_K.moved hW.alike hK, hD9, fun h => absurd (hk.symm.trans h) (by decide)⟩, hS.F ht⟩) hS.2.2 dL_shape_22
  · obtain ⟨hP, hD⟩ := va_join (wr := [(o0, .inl (cyJ, 1, .inr (.inl go)))]) (w1 := []) hP hD [0, 1, 2, 3, 4, 5, 6] [7] rfl rfl (by decide) (by decide) hk1 hFc x_P0 x_D0
    generalize H1 = H at hP hS ⊢
    have hP : va_P (dC, dI) vwCl [(o0, .inl (cyJ, 1, .inr (.inl go)))] H := hP
    have hD : va_D A [(o0, .inl (cyJ, 1, .inr (.inl go)))] := hD
    refine W.widen (k := 1) (n := 6) (Nat.le_of_ble_eq_true rfl) (Nat.le_of_ble_eq_true rfl) ?_
    refine lv_i2l (v := (Int32.toInt64 r_5)) hx hb dL_shape_10 rfl ?_
    refine va_last hx hb hK hP hD hS 0 2 rfl rfl (x_lit _ _ (by decide)) dL_shape_11 (fun H locs hP hD hS => ?_)
    have hP : va_P (dC, dI) vwCl [(o0, .inl (cyJ, 1, .inr (.inl (vp_updL go (Int32.toNatClampNeg 0) (Int32.toInt64 r_5)))))] H := hP
    have hD : va_D A [(o0, .inl (cyJ, 1, .inr (.inl (vp_updL go (Int32.toNatClampNeg 0) (Int32.toInt64 r_5)))))] := hD
    refine lv_goto (tgt := 23) hx hb dL_shape_12 (by decide) ?_
    refine lv_iconst (v := 0) hx hb dL_shape_23 (by decide) ?_
    have hP9 := hP.sub (ws' := [(o0, .inl (cyJ, 1, .inr (.inl (vp_updL go (Int32.toNatClampNeg 0) (Int32.toInt64 r_5)))))]) [0] rfl
    have hD9 := hD.sub (ws' := [(o0, .inl (cyJ, 1, .inr (.inl (vp_updL go (Int32.toNatClampNeg 0) (Int32.toInt64 r_5)))))]) [0] (by decide) rfl
    exact W.iret hx hb hr (fun t ht hW => ⟨⟨_, (), rfl, by rw [hw], (vp_updL go (Int32.toNatClampNeg 0) (Int32.toInt64 r_5)), by rw [ht]; exact hP9, va_K.moved hW.alike hK, hD9, fun _ => by rw [hw]; exact x_out⟩, hS.F ht⟩) hS.2.2 dL_shape_24

set_option maxHeartbeats 4000000 in
set_option maxRecDepth 100000 in
theorem c_L_takes (l : Launch) (hl9 : l.stackTraces = false) (dC : Nat → ClassId) (dI : Nat → Nat → Nat) (cyI cyZ cyJ : ClassId) (base : Nat) (sz : Nat) (h0 : Nat) (t0 : Nat) (m0 : Nat) (c0 : Nat) (x0 : Nat) (f0 : Nat) (w0 : Nat) (th1 : Nat) (th2 : Nat) (ma0 : Nat) (ma1 : Nat) (ma3 : Nat) (ma4 : Nat) (ma5 : Nat) (ma6 : Nat) (ma7 : Nat) (p0 : Int32) (o0 : Nat) (go : Nat → Int64) : Met l yL_takes wsL_takes ({ frames := 7, cells := 1, slots := 6, locals := 111 }) (va_Pc [.ref h0, .int p0, .ref o0] (x_PreX (dC, dI) (x_T cyI cyZ cyJ) [(h0, .inr (8, [.ref t0, .ref m0, .ref c0, .ref x0, .ref f0, .ref w0])), (t0, .inr (7, [.ref th1, .ref th2, .int 4])), (m0, .inr (4, [.ref ma0, .ref ma1, .int 0, .ref ma3, .ref ma4, .ref ma5, .ref ma6, .ref ma7, .int 0])), (o0, .inl (cyJ, 1, .inr (.inl go)))] base sz)) (va_Qi (fun (r : Int32) (_ : Unit) => r = (f_X8_takes p0).1) (fun (_ : Unit) (t : State) => ∃ u : Nat → Int64, va_P (dC, dI) vwCl [(o0, .inl (cyJ, 1, .inr (.inl u)))] t.heap ∧ va_K (dC, dI) vwCl (x_T cyI cyZ cyJ) t ∧ va_D (va_A [(h0, .inr (8, [.ref t0, .ref m0, .ref c0, .ref x0, .ref f0, .ref w0])), (t0, .inr (7, [.ref th1, .ref th2, .int 4])), (m0, .inr (4, [.ref ma0, .ref ma1, .int 0, .ref ma3, .ref ma4, .ref ma5, .ref ma6, .ref ma7, .int 0])), (o0, .inl (cyJ, 1, .inr (.inl go)))] sz) [(o0, .inl (cyJ, 1, .inr (.inl u)))] ∧ ((f_X8_takes p0).1 = 0 → u 0 = Int32.toInt64 (f_X8_takes p0).2)) (va_A [(h0, .inr (8, [.ref t0, .ref m0, .ref c0, .ref x0, .ref f0, .ref w0])), (t0, .inr (7, [.ref th1, .ref th2, .int 4])), (m0, .inr (4, [.ref ma0, .ref ma1, .int 0, .ref ma3, .ref ma4, .ref ma5, .ref ma6, .ref ma7, .int 0])), (o0, .inl (cyJ, 1, .inr (.inl go)))] sz)) 1 6 (va_A [(h0, .inr (8, [.ref t0, .ref m0, .ref c0, .ref x0, .ref f0, .ref w0])), (t0, .inr (7, [.ref th1, .ref th2, .int 4])), (m0, .inr (4, [.ref ma0, .ref ma1, .int 0, .ref ma3, .ref ma4, .ref ma5, .ref ma6, .ref ma7, .int 0])), (o0, .inl (cyJ, 1, .inr (.inl go)))] sz) := by
  refine va_MetW (cc := cL_takes) (maxL := 4) (ret := (some .int)) (hh := [(0, 9, 12, 13), (0, 9, 15, 15)]) (by decide) rfl ?_
  intro p e s m args below meth c s₁ B hml hv
  obtain ⟨rfl, ⟨⟨hsz, hP, hK, hN⟩, hD0⟩, hDb, hbz, hG⟩ := hv
  have hx := B.exec
  have hb := B.bytes
  have hr := B.returns
  have hts := atoms_spec (ws := wsL_takes) B.pre
  have hown : s.vm.findClass RL = some m.cls := findClass_of_methodNamed B.named
  have hlocks := B.notSynchronized
  have hTb : c.exceptionTable.toList = [⟨0, 9, 12, 13⟩, ⟨0, 9, 15, 15⟩] := vx_table (x := yL_takes) B (hts _ List.mem_cons_self)
  have k_1 := hts (.classLink RL 13 "java/lang/IllegalArgumentException") (by decide +kernel)
  have k_2 := hts (.classLink RL 15 "java/lang/IllegalStateException") (by decide +kernel)
  subst hsz
  have hAb : ∀ q, va_A [(h0, .inr (8, [.ref t0, .ref m0, .ref c0, .ref x0, .ref f0, .ref w0])), (t0, .inr (7, [.ref th1, .ref th2, .int 4])), (m0, .inr (4, [.ref ma0, .ref ma1, .int 0, .ref ma3, .ref ma4, .ref ma5, .ref ma6, .ref ma7, .int 0])), (o0, .inl (cyJ, 1, .inr (.inl go)))] s.heap.size q → x_new base q := x_Ab hDb hbz
  have hD := hD0.self (sz := s.heap.size)
  generalize hAe : va_A [(h0, .inr (8, [.ref t0, .ref m0, .ref c0, .ref x0, .ref f0, .ref w0])), (t0, .inr (7, [.ref th1, .ref th2, .int 4])), (m0, .inr (4, [.ref ma0, .ref ma1, .int 0, .ref ma3, .ref ma4, .ref ma5, .ref ma6, .ref ma7, .int 0])), (o0, .inl (cyJ, 1, .inr (.inl go)))] s.heap.size = A at hD hAb ⊢
  have hA : ∀ q : Nat, s.heap.size ≤ q → A q := fun q h => by rw [← hAe]; exact Or.inr h
  have hl := lv_entry ([.ref h0, .int p0, .ref o0]) (n := 4) (Nat.le_of_ble_eq_true rfl)
  rw [lg_entry_eq]
  generalize (lg_sl ([.ref h0, .int p0, .ref o0]) ++ List.replicate (4 - (lg_sl ([.ref h0, .int p0, .ref o0])).length) Slot.unset).toArray = ls at hl ⊢
  have hl : lv_has ls 4 [(0, .ref h0), (1, .int p0), (2, .ref o0)] := hl
  obtain ⟨H, hH⟩ : ∃ z, z = s.heap := ⟨_, rfl⟩
  refine x_here hH ?_
  have hP : va_P (dC, dI) vwCl [(h0, .inr (8, [.ref t0, .ref m0, .ref c0, .ref x0, .ref f0, .ref w0])), (t0, .inr (7, [.ref th1, .ref th2, .int 4])), (m0, .inr (4, [.ref ma0, .ref ma1, .int 0, .ref ma3, .ref ma4, .ref ma5, .ref ma6, .ref ma7, .int 0])), (o0, .inl (cyJ, 1, .inr (.inl go)))] H := by rw [hH]; exact hP
  have hS : va_S A s.heap H [] := by rw [hH]; exact va_S.rf
  clear hH
  refine lv_aload_n hx hb dL_takes_0 rfl (lv_at hl 2 rfl) ?_
  refine lv_iconst (v := 0) hx hb dL_takes_1 (by decide) ?_
  refine lv_aload_n hx hb dL_takes_2 rfl (lv_at hl 0 rfl) ?_
  refine lv_iload_n hx hb dL_takes_3 rfl (lv_at hl 1 rfl) ?_
  have hPc := hP.sub (ws' := [(h0, .inr (8, [.ref t0, .ref m0, .ref c0, .ref x0, .ref f0, .ref w0])), (t0, .inr (7, [.ref th1, .ref th2, .int 4])), (m0, .inr (4, [.ref ma0, .ref ma1, .int 0, .ref ma3, .ref ma4, .ref ma5, .ref ma6, .ref ma7, .int 0]))]) [0, 1, 2] rfl
  have hDc := hDb.sub (ws' := [(h0, .inr (8, [.ref t0, .ref m0, .ref c0, .ref x0, .ref f0, .ref w0])), (t0, .inr (7, [.ref th1, .ref th2, .int 4])), (m0, .inr (4, [.ref ma0, .ref ma1, .int 0, .ref ma3, .ref ma4, .ref ma5, .ref ma6, .ref ma7, .int 0]))]) [0, 1, 2] (by decide) rfl
  have hFc := va_free (wc := [(h0, .inr (8, [.ref t0, .ref m0, .ref c0, .ref x0, .ref f0, .ref w0])), (t0, .inr (7, [.ref th1, .ref th2, .int 4])), (m0, .inr (4, [.ref ma0, .ref ma1, .int 0, .ref ma3, .ref ma4, .ref ma5, .ref ma6, .ref ma7, .int 0]))]) hD hS hA [0, 1, 2] rfl
  refine vx_calli (vx_runV (As := [.int p0]) (rest := [.int 0, .ref o0]) ⟨hx, hb, hml, hown, hts⟩ (c_X8_takes l hl9 dC dI cyI cyZ cyJ base H.size h0 t0 m0 c0 x0 f0 w0 th1 th2 ma0 ma1 ma3 ma4 ma5 ma6 ma7 p0) (cwV 1 hts gL_takes_X8_takes rfl rfl rfl (by decide +kernel) ⟨Nat.le_of_ble_eq_true rfl, Nat.le_of_ble_eq_true rfl⟩) (x_pVX hG hN hK hPc hDc (Nat.le_trans hbz hS.1) (fun q h1 h2 => hS.2.1 q h1 (fun h3 => h2 (hAb q h3))) (ci := 8) (q0 := 0) rfl rfl) rfl rfl hl.1 rfl (lv_room (Nat.le_of_ble_eq_true rfl)) dL_takes_4 ⟨Nat.le_of_ble_eq_true rfl, Nat.le_of_ble_eq_true rfl⟩) hS (fun q _ h => hFc q h) hFc (fun q _ h => hFc q h) (fun E ce q9 u t H1 locs ht hvm hpx hE hz1 hk1 hS hce hcv hcl => ?_) (fun r_5 u t H1 locs ht hvm hw hB hz1 hk1 hS => ?_)
  · obtain ⟨hP, hD⟩ := va_join (wr := [(o0, .inl (cyJ, 1, .inr (.inl go)))]) (w1 := []) hP hD [0, 1, 2] [3] rfl rfl (by decide) (by decide) hk1 hFc x_P0 x_D0
    generalize H1 = H at hP hS hce ⊢
    have hP : va_P (dC, dI) vwCl [(o0, .inl (cyJ, 1, .inr (.inl go)))] H := hP
    have hD : va_D A [(o0, .inl (cyJ, 1, .inr (.inl go)))] := hD
    rcases hE with ⟨hk, rfl⟩ | ⟨hk, rfl⟩
    · refine vx_catch (name := "java/lang/IllegalArgumentException") hown [] ⟨0, 9, 12, 13⟩ [⟨0, 9, 15, 15⟩] hTb (fun z hz => by cases hz) (by decide) (by decide) k_1 (hG.2.2.2.1.use rfl) hce hcv hcl ?_
      refine W.widen (k := 1) (n := 6) (Nat.le_of_ble_eq_true rfl) (Nat.le_of_ble_eq_true rfl) ?_
      refine lv_astore_n (lv' := [(3, .ref q9), (0, .ref h0), (1, .int p0), (2, .ref o0)]) hx hb dL_takes_12 rfl hl (by decide) rfl (fun ls hl => ?_)
      refine lv_iconst (v := 1) hx hb dL_takes_13 (by decide) ?_
      have hP9 := hP.sub (ws' := [(o0, .inl (cyJ, 1, .inr (.inl go)))]) [0] rfl
      have hD9 := hD.sub (ws' := [(o0, .inl (cyJ, 1, .inr (.inl go)))]) [0] (by decide) rfl
      exact W.iret hx hb hr (fun t ht hW => ⟨⟨_, (), rfl, hk.symm, go, by rw [ht]; exact hP9, va_K.moved hW.alike hK, hD9, fun h => absurd (hk.symm.trans h) (by decide)⟩, hS.F ht⟩) hS.2.2 dL_takes_14
    · refine vx_catch (name := "java/lang/IllegalStateException") hown [⟨0, 9, 12, 13⟩] ⟨0, 9, 15, 15⟩ [] hTb (fun z hz => Or.inr (by rw [List.mem_singleton.mp hz]; exact ⟨by decide, "java/lang/IllegalArgumentException", k_1, hG.2.2.2.2.2.2.2.2⟩)) (by decide) (by decide) k_2 (hG.2.2.2.2.1.use rfl) hce hcv hcl ?_
      refine W.widen (k := 1) (n := 6) (Nat.le_of_ble_eq_true rfl) (Nat.le_of_ble_eq_true rfl) ?_
      refine lv_astore_n (lv' := [(3, .ref q9), (0, .ref h0), (1, .int p0), (2, .ref o0)]) hx hb dL_takes_15 rfl hl (by decide) rfl (fun ls hl => ?_)
      refine lv_iconst (v := 2) hx hb dL_takes_16 (by decide) ?_
      have hP9 := hP.sub (ws' := [(o0, .inl (cyJ, 1, .inr (.inl go)))]) [0] rfl
      have hD9 := hD.sub (ws' := [(o0, .inl (cyJ, 1, .inr (.inl go)))]) [0] (by decide) rfl
      exact W.iret hx hb hr (fun t ht hW => ⟨⟨_, (), rfl, hk.symm, go, by rw [ht]; exact hP9, va_K.moved hW.alike hK, hD9, fun h => absurd (hk.symm.trans h) (by decide)⟩, hS.F ht⟩) hS.2.2 dL_takes_17
  · obtain ⟨hP, hD⟩ := va_join (wr := [(o0, .inl (cyJ, 1, .inr (.inl go)))]) (w1 := []) hP hD [0, 1, 2] [3] rfl rfl (by decide) (by decide) hk1 hFc x_P0 x_D0
    generalize H1 = H at hP hS ⊢
    have hP : va_P (dC, dI) vwCl [(o0, .inl (cyJ, 1, .inr (.inl go)))] H := hP
    have hD : va_D A [(o0, .inl (cyJ, 1, .inr (.inl go)))] := hD
    refine W.widen (k := 1) (n := 6) (Nat.le_of_ble_eq_true rfl) (Nat.le_of_ble_eq_true rfl) ?_
    refine lv_i2l (v := (Int32.toInt64 r_5)) hx hb dL_takes_7 rfl ?_
    refine va_last hx hb hK hP hD hS 0 2 rfl rfl (x_lit _ _ (by decide)) dL_takes_8 (fun H locs hP hD hS => ?_)
    have hP : va_P (dC, dI) vwCl [(o0, .inl (cyJ, 1, .inr (.inl (vp_updL go (Int32.toNatClampNeg 0) (Int32.toInt64 r_5)))))] H := hP
    have hD : va_D A [(o0, .inl (cyJ, 1, .inr (.inl (vp_updL go (Int32.toNatClampNeg 0) (Int32.toInt64 r_5)))))] := hD
    refine lv_goto (tgt := 18) hx hb dL_takes_9 (by decide) ?_
    refine lv_iconst (v := 0) hx hb dL_takes_18 (by decide) ?_
    have hP9 := hP.sub (ws' := [(o0, .inl (cyJ, 1, .inr (.inl (vp_updL go (Int32.toNatClampNeg 0) (Int32.toInt64 r_5)))))]) [0] rfl
    have hD9 := hD.sub (ws' := [(o0, .inl (cyJ, 1, .inr (.inl (vp_updL go (Int32.toNatClampNeg 0) (Int32.toInt64 r_5)))))]) [0] (by decide) rfl
    exact W.iret hx hb hr (fun t ht hW => ⟨⟨_, (), rfl, by rw [hw], (vp_updL go (Int32.toNatClampNeg 0) (Int32.toInt64 r_5)), by rw [ht]; exact hP9, va_K.moved hW.alike hK, hD9, fun _ => by rw [hw]; exact x_out⟩, hS.F ht⟩) hS.2.2 dL_takes_19

theorem n2_X8_method (p0 : Int32) (p1 : Int32) (p2 : Int32) (p3 : Int32) (p4 : Int32) : ¬ (f_X8_method p0 p1 p2 p3 p4).1 = 2 := (x_ite2 (x_leaf (by decide)) (x_ite2 (x_leaf (by decide)) (x_ite2 (x_leaf (by decide)) (x_ite2 (x_leaf (by decide)) (x_ite2 (x_ite2 (x_ite2 (x_ite2 (x_leaf (by decide)) (x_ite2 (x_leaf (by decide)) (x_ite2 (x_leaf (by decide)) (x_ite2 (x_leaf (by decide)) (x_leaf (by decide)))))) (x_leaf (by decide))) (x_leaf (by decide))) (x_ite2 (x_leaf (by decide)) (x_ite2 (x_leaf (by decide)) (x_ite2 (x_leaf (by decide)) (x_ite2 (x_leaf (by decide)) (x_leaf (by decide)))))))))))
set_option maxHeartbeats 4000000 in
set_option maxRecDepth 100000 in
theorem c_L_method (l : Launch) (hl9 : l.stackTraces = false) (dC : Nat → ClassId) (dI : Nat → Nat → Nat) (cyI cyZ cyJ : ClassId) (base : Nat) (sz : Nat) (h0 : Nat) (t0 : Nat) (m0 : Nat) (c0 : Nat) (x0 : Nat) (f0 : Nat) (w0 : Nat) (th1 : Nat) (th2 : Nat) (ca5 : Nat) (ca7 : Nat) (ca8 : Nat) (ca9 : Nat) (ca11 : Nat) (ca12 : Nat) (ca13 : Nat) (ca14 : Nat) (ca16 : Nat) (p0 : Int32) (p1 : Int32) (p2 : Int32) (p3 : Int32) (p4 : Int32) (o0 : Nat) (go : Nat → Int64) : Met l yL_method wsL_method ({ frames := 7, cells := 1, slots := 6, locals := 115 }) (va_Pc [.ref h0, .int p0, .int p1, .int p2, .int p3, .int p4, .ref o0] (x_PreX (dC, dI) (x_T cyI cyZ cyJ) [(h0, .inr (8, [.ref t0, .ref m0, .ref c0, .ref x0, .ref f0, .ref w0])), (t0, .inr (7, [.ref th1, .ref th2, .int 4])), (th2, .inl (cyZ, 200, .inl x_face)), (c0, .inr (0, [.int 0, .int 0, .int (-1), .int 0, .int 0, .ref ca5, .int 0, .ref ca7, .ref ca8, .ref ca9, .int 0, .ref ca11, .ref ca12, .ref ca13, .ref ca14, .int 0, .ref ca16])), (o0, .inl (cyJ, 1, .inr (.inl go)))] base sz)) (va_Qi (fun (r : Int32) (_ : Unit) => r = (f_X8_method p0 p1 p2 p3 p4).1) (fun (_ : Unit) (t : State) => ∃ u : Nat → Int64, va_P (dC, dI) vwCl [(o0, .inl (cyJ, 1, .inr (.inl u)))] t.heap ∧ va_K (dC, dI) vwCl (x_T cyI cyZ cyJ) t ∧ va_D (va_A [(h0, .inr (8, [.ref t0, .ref m0, .ref c0, .ref x0, .ref f0, .ref w0])), (t0, .inr (7, [.ref th1, .ref th2, .int 4])), (th2, .inl (cyZ, 200, .inl x_face)), (c0, .inr (0, [.int 0, .int 0, .int (-1), .int 0, .int 0, .ref ca5, .int 0, .ref ca7, .ref ca8, .ref ca9, .int 0, .ref ca11, .ref ca12, .ref ca13, .ref ca14, .int 0, .ref ca16])), (o0, .inl (cyJ, 1, .inr (.inl go)))] sz) [(o0, .inl (cyJ, 1, .inr (.inl u)))] ∧ ((f_X8_method p0 p1 p2 p3 p4).1 = 0 → u 0 = Int32.toInt64 (f_X8_method p0 p1 p2 p3 p4).2)) (va_A [(h0, .inr (8, [.ref t0, .ref m0, .ref c0, .ref x0, .ref f0, .ref w0])), (t0, .inr (7, [.ref th1, .ref th2, .int 4])), (th2, .inl (cyZ, 200, .inl x_face)), (c0, .inr (0, [.int 0, .int 0, .int (-1), .int 0, .int 0, .ref ca5, .int 0, .ref ca7, .ref ca8, .ref ca9, .int 0, .ref ca11, .ref ca12, .ref ca13, .ref ca14, .int 0, .ref ca16])), (o0, .inl (cyJ, 1, .inr (.inl go)))] sz)) 1 6 (va_A [(h0, .inr (8, [.ref t0, .ref m0, .ref c0, .ref x0, .ref f0, .ref w0])), (t0, .inr (7, [.ref th1, .ref th2, .int 4])), (th2, .inl (cyZ, 200, .inl x_face)), (c0, .inr (0, [.int 0, .int 0, .int (-1), .int 0, .int 0, .ref ca5, .int 0, .ref ca7, .ref ca8, .ref ca9, .int 0, .ref ca11, .ref ca12, .ref ca13, .ref ca14, .int 0, .ref ca16])), (o0, .inl (cyJ, 1, .inr (.inl go)))] sz) := by
  refine va_MetW (cc := cL_method) (maxL := 8) (ret := (some .int)) (hh := [(0, 16, 19, 13)]) (by decide) rfl ?_
  intro p e s m args below meth c s₁ B hml hv
  obtain ⟨rfl, ⟨⟨hsz, hP, hK, hN⟩, hD0⟩, hDb, hbz, hG⟩ := hv
  have hx := B.exec
  have hb := B.bytes
  have hr := B.returns
  have hts := atoms_spec (ws := wsL_method) B.pre
  have hown : s.vm.findClass RL = some m.cls := findClass_of_methodNamed B.named
  have hlocks := B.notSynchronized
  have hTb : c.exceptionTable.toList = [⟨0, 16, 19, 13⟩] := vx_table (x := yL_method) B (hts _ List.mem_cons_self)
  have k_1 := hts (.classLink RL 13 "java/lang/IllegalArgumentException") (by decide +kernel)
  subst hsz
  have hAb : ∀ q, va_A [(h0, .inr (8, [.ref t0, .ref m0, .ref c0, .ref x0, .ref f0, .ref w0])), (t0, .inr (7, [.ref th1, .ref th2, .int 4])), (th2, .inl (cyZ, 200, .inl x_face)), (c0, .inr (0, [.int 0, .int 0, .int (-1), .int 0, .int 0, .ref ca5, .int 0, .ref ca7, .ref ca8, .ref ca9, .int 0, .ref ca11, .ref ca12, .ref ca13, .ref ca14, .int 0, .ref ca16])), (o0, .inl (cyJ, 1, .inr (.inl go)))] s.heap.size q → x_new base q := x_Ab hDb hbz
  have hD := hD0.self (sz := s.heap.size)
  generalize hAe : va_A [(h0, .inr (8, [.ref t0, .ref m0, .ref c0, .ref x0, .ref f0, .ref w0])), (t0, .inr (7, [.ref th1, .ref th2, .int 4])), (th2, .inl (cyZ, 200, .inl x_face)), (c0, .inr (0, [.int 0, .int 0, .int (-1), .int 0, .int 0, .ref ca5, .int 0, .ref ca7, .ref ca8, .ref ca9, .int 0, .ref ca11, .ref ca12, .ref ca13, .ref ca14, .int 0, .ref ca16])), (o0, .inl (cyJ, 1, .inr (.inl go)))] s.heap.size = A at hD hAb ⊢
  have hA : ∀ q : Nat, s.heap.size ≤ q → A q := fun q h => by rw [← hAe]; exact Or.inr h
  have hl := lv_entry ([.ref h0, .int p0, .int p1, .int p2, .int p3, .int p4, .ref o0]) (n := 8) (Nat.le_of_ble_eq_true rfl)
  rw [lg_entry_eq]
  generalize (lg_sl ([.ref h0, .int p0, .int p1, .int p2, .int p3, .int p4, .ref o0]) ++ List.replicate (8 - (lg_sl ([.ref h0, .int p0, .int p1, .int p2, .int p3, .int p4, .ref o0])).length) Slot.unset).toArray = ls at hl ⊢
  have hl : lv_has ls 8 [(0, .ref h0), (1, .int p0), (2, .int p1), (3, .int p2), (4, .int p3), (5, .int p4), (6, .ref o0)] := hl
  obtain ⟨H, hH⟩ : ∃ z, z = s.heap := ⟨_, rfl⟩
  refine x_here hH ?_
  have hP : va_P (dC, dI) vwCl [(h0, .inr (8, [.ref t0, .ref m0, .ref c0, .ref x0, .ref f0, .ref w0])), (t0, .inr (7, [.ref th1, .ref th2, .int 4])), (th2, .inl (cyZ, 200, .inl x_face)), (c0, .inr (0, [.int 0, .int 0, .int (-1), .int 0, .int 0, .ref ca5, .int 0, .ref ca7, .ref ca8, .ref ca9, .int 0, .ref ca11, .ref ca12, .ref ca13, .ref ca14, .int 0, .ref ca16])), (o0, .inl (cyJ, 1, .inr (.inl go)))] H := by rw [hH]; exact hP
  have hS : va_S A s.heap H [] := by rw [hH]; exact va_S.rf
  clear hH
  refine lv_aload hx hb dL_method_0 (lv_at hl 6 rfl) ?_
  refine lv_iconst (v := 0) hx hb dL_method_2 (by decide) ?_
  refine lv_aload_n hx hb dL_method_3 rfl (lv_at hl 0 rfl) ?_
  refine lv_iload_n hx hb dL_method_4 rfl (lv_at hl 1 rfl) ?_
  refine lv_iload_n hx hb dL_method_5 rfl (lv_at hl 2 rfl) ?_
  refine lv_iload_n hx hb dL_method_6 rfl (lv_at hl 3 rfl) ?_
  refine lv_iload hx hb dL_method_7 (lv_at hl 4 rfl) ?_
  refine lv_iload hx hb dL_method_9 (lv_at hl 5 rfl) ?_
  have hPc := hP.sub (ws' := [(h0, .inr (8, [.ref t0, .ref m0, .ref c0, .ref x0, .ref f0, .ref w0])), (t0, .inr (7, [.ref th1, .ref th2, .int 4])), (th2, .inl (cyZ, 200, .inl x_face)), (c0, .inr (0, [.int 0, .int 0, .int (-1), .int 0, .int 0, .ref ca5, .int 0, .ref ca7, .ref ca8, .ref ca9, .int 0, .ref ca11, .ref ca12, .ref ca13, .ref ca14, .int 0, .ref ca16]))]) [0, 1, 2, 3] rfl
  have hDc := hDb.sub (ws' := [(h0, .inr (8, [.ref t0, .ref m0, .ref c0, .ref x0, .ref f0, .ref w0])), (t0, .inr (7, [.ref th1, .ref th2, .int 4])), (th2, .inl (cyZ, 200, .inl x_face)), (c0, .inr (0, [.int 0, .int 0, .int (-1), .int 0, .int 0, .ref ca5, .int 0, .ref ca7, .ref ca8, .ref ca9, .int 0, .ref ca11, .ref ca12, .ref ca13, .ref ca14, .int 0, .ref ca16]))]) [0, 1, 2, 3] (by decide) rfl
  have hFc := va_free (wc := [(h0, .inr (8, [.ref t0, .ref m0, .ref c0, .ref x0, .ref f0, .ref w0])), (t0, .inr (7, [.ref th1, .ref th2, .int 4])), (th2, .inl (cyZ, 200, .inl x_face)), (c0, .inr (0, [.int 0, .int 0, .int (-1), .int 0, .int 0, .ref ca5, .int 0, .ref ca7, .ref ca8, .ref ca9, .int 0, .ref ca11, .ref ca12, .ref ca13, .ref ca14, .int 0, .ref ca16]))]) hD hS hA [0, 1, 2, 3] rfl
  refine vx_calli (vx_runV (As := [.int p0, .int p1, .int p2, .int p3, .int p4]) (rest := [.int 0, .ref o0]) ⟨hx, hb, hml, hown, hts⟩ (c_X8_method l hl9 dC dI cyI cyZ cyJ base H.size h0 t0 m0 c0 x0 f0 w0 th1 th2 ca5 ca7 ca8 ca9 ca11 ca12 ca13 ca14 ca16 p0 p1 p2 p3 p4) (cwV 5 hts gL_method_X8_method rfl rfl rfl (by decide +kernel) ⟨Nat.le_of_ble_eq_true rfl, Nat.le_of_ble_eq_true rfl⟩) (x_pVX hG hN hK hPc hDc (Nat.le_trans hbz hS.1) (fun q h1 h2 => hS.2.1 q h1 (fun h3 => h2 (hAb q h3))) (ci := 8) (q0 := 0) rfl rfl) rfl rfl hl.1 rfl (lv_room (Nat.le_of_ble_eq_true rfl)) dL_method_11 ⟨Nat.le_of_ble_eq_true rfl, Nat.le_of_ble_eq_true rfl⟩) hS (fun q _ h => hFc q h) hFc (fun q _ h => hFc q h) (fun E ce q9 u t H1 locs ht hvm hpx hE hz1 hk1 hS hce hcv hcl => ?_) (fun r_5 u t H1 locs ht hvm hw hB hz1 hk1 hS => ?_)
  · obtain ⟨hP, hD⟩ := va_join (wr := [(o0, .inl (cyJ, 1, .inr (.inl go)))]) (w1 := []) hP hD [0, 1, 2, 3] [4] rfl rfl (by decide) (by decide) hk1 hFc x_P0 x_D0
    generalize H1 = H at hP hS hce ⊢
    have hP : va_P (dC, dI) vwCl [(o0, .inl (cyJ, 1, .inr (.inl go)))] H := hP
    have hD : va_D A [(o0, .inl (cyJ, 1, .inr (.inl go)))] := hD
    rcases hE with ⟨hk, rfl⟩ | ⟨hk, rfl⟩
    · refine vx_catch (name := "java/lang/IllegalArgumentException") hown [] ⟨0, 16, 19, 13⟩ [] hTb (fun z hz => by cases hz) (by decide) (by decide) k_1 (hG.2.2.2.1.use rfl) hce hcv hcl ?_
      refine W.widen (k := 1) (n := 6) (Nat.le_of_ble_eq_true rfl) (Nat.le_of_ble_eq_true rfl) ?_
      refine lv_astore (lv' := [(7, .ref q9), (0, .ref h0), (1, .int p0), (2, .int p1), (3, .int p2), (4, .int p3), (5, .int p4), (6, .ref o0)]) hx hb dL_method_19 hl (by decide) rfl (fun ls hl => ?_)
      refine lv_iconst (v := 1) hx hb dL_method_21 (by decide) ?_
      have hP9 := hP.sub (ws' := [(o0, .inl (cyJ, 1, .inr (.inl go)))]) [0] rfl
      have hD9 := hD.sub (ws' := [(o0, .inl (cyJ, 1, .inr (.inl go)))]) [0] (by decide) rfl
      exact W.iret hx hb hr (fun t ht hW => ⟨⟨_, (), rfl, hk.symm, go, by rw [ht]; exact hP9, va_K.moved hW.alike hK, hD9, fun h => absurd (hk.symm.trans h) (by decide)⟩, hS.F ht⟩) hS.2.2 dL_method_22
    · exact absurd hk (n2_X8_method p0 p1 p2 p3 p4)
  · obtain ⟨hP, hD⟩ := va_join (wr := [(o0, .inl (cyJ, 1, .inr (.inl go)))]) (w1 := []) hP hD [0, 1, 2, 3] [4] rfl rfl (by decide) (by decide) hk1 hFc x_P0 x_D0
    generalize H1 = H at hP hS ⊢
    have hP : va_P (dC, dI) vwCl [(o0, .inl (cyJ, 1, .inr (.inl go)))] H := hP
    have hD : va_D A [(o0, .inl (cyJ, 1, .inr (.inl go)))] := hD
    refine W.widen (k := 1) (n := 6) (Nat.le_of_ble_eq_true rfl) (Nat.le_of_ble_eq_true rfl) ?_
    refine lv_i2l (v := (Int32.toInt64 r_5)) hx hb dL_method_14 rfl ?_
    refine va_last hx hb hK hP hD hS 0 2 rfl rfl (x_lit _ _ (by decide)) dL_method_15 (fun H locs hP hD hS => ?_)
    have hP : va_P (dC, dI) vwCl [(o0, .inl (cyJ, 1, .inr (.inl (vp_updL go (Int32.toNatClampNeg 0) (Int32.toInt64 r_5)))))] H := hP
    have hD : va_D A [(o0, .inl (cyJ, 1, .inr (.inl (vp_updL go (Int32.toNatClampNeg 0) (Int32.toInt64 r_5)))))] := hD
    refine lv_goto (tgt := 23) hx hb dL_method_16 (by decide) ?_
    refine lv_iconst (v := 0) hx hb dL_method_23 (by decide) ?_
    have hP9 := hP.sub (ws' := [(o0, .inl (cyJ, 1, .inr (.inl (vp_updL go (Int32.toNatClampNeg 0) (Int32.toInt64 r_5)))))]) [0] rfl
    have hD9 := hD.sub (ws' := [(o0, .inl (cyJ, 1, .inr (.inl (vp_updL go (Int32.toNatClampNeg 0) (Int32.toInt64 r_5)))))]) [0] (by decide) rfl
    exact W.iret hx hb hr (fun t ht hW => ⟨⟨_, (), rfl, by rw [hw], (vp_updL go (Int32.toNatClampNeg 0) (Int32.toInt64 r_5)), by rw [ht]; exact hP9, va_K.moved hW.alike hK, hD9, fun _ => by rw [hw]; exact x_out⟩, hS.F ht⟩) hS.2.2 dL_method_24

set_option maxHeartbeats 4000000 in
set_option maxRecDepth 100000 in
theorem c_L_argument (l : Launch) (hl9 : l.stackTraces = false) (dC : Nat → ClassId) (dI : Nat → Nat → Nat) (cyI cyZ cyJ : ClassId) (base : Nat) (sz : Nat) (h0 : Nat) (t0 : Nat) (m0 : Nat) (c0 : Nat) (x0 : Nat) (f0 : Nat) (w0 : Nat) (th1 : Nat) (th2 : Nat) (ca5 : Nat) (ca7 : Nat) (ca8 : Nat) (ca9 : Nat) (ca11 : Nat) (ca12 : Nat) (ca13 : Nat) (ca14 : Nat) (ca16 : Nat) (g5 : Nat → Int32) (p0 : Int32) (o0 : Nat) (go : Nat → Int64) : Met l yL_argument wsL_argument ({ frames := 7, cells := 1, slots := 6, locals := 111 }) (va_Pc [.ref h0, .int p0, .ref o0] (x_PreX (dC, dI) (x_T cyI cyZ cyJ) [(h0, .inr (8, [.ref t0, .ref m0, .ref c0, .ref x0, .ref f0, .ref w0])), (t0, .inr (7, [.ref th1, .ref th2, .int 4])), (c0, .inr (0, [.int 0, .int 0, .int (-1), .int 0, .int 0, .ref ca5, .int 0, .ref ca7, .ref ca8, .ref ca9, .int 0, .ref ca11, .ref ca12, .ref ca13, .ref ca14, .int 0, .ref ca16])), (ca5, .inl (cyI, 20, .inl g5)), (o0, .inl (cyJ, 1, .inr (.inl go)))] base sz)) (va_Qi (fun (r : Int32) (_ : Unit) => r = (f_X8_argument p0).1) (fun (_ : Unit) (t : State) => ∃ u : Nat → Int64, va_P (dC, dI) vwCl [(o0, .inl (cyJ, 1, .inr (.inl u)))] t.heap ∧ va_K (dC, dI) vwCl (x_T cyI cyZ cyJ) t ∧ va_D (va_A [(h0, .inr (8, [.ref t0, .ref m0, .ref c0, .ref x0, .ref f0, .ref w0])), (t0, .inr (7, [.ref th1, .ref th2, .int 4])), (c0, .inr (0, [.int 0, .int 0, .int (-1), .int 0, .int 0, .ref ca5, .int 0, .ref ca7, .ref ca8, .ref ca9, .int 0, .ref ca11, .ref ca12, .ref ca13, .ref ca14, .int 0, .ref ca16])), (ca5, .inl (cyI, 20, .inl g5)), (o0, .inl (cyJ, 1, .inr (.inl go)))] sz) [(o0, .inl (cyJ, 1, .inr (.inl u)))] ∧ ((f_X8_argument p0).1 = 0 → u 0 = Int32.toInt64 (f_X8_argument p0).2)) (va_A [(h0, .inr (8, [.ref t0, .ref m0, .ref c0, .ref x0, .ref f0, .ref w0])), (t0, .inr (7, [.ref th1, .ref th2, .int 4])), (c0, .inr (0, [.int 0, .int 0, .int (-1), .int 0, .int 0, .ref ca5, .int 0, .ref ca7, .ref ca8, .ref ca9, .int 0, .ref ca11, .ref ca12, .ref ca13, .ref ca14, .int 0, .ref ca16])), (ca5, .inl (cyI, 20, .inl g5)), (o0, .inl (cyJ, 1, .inr (.inl go)))] sz)) 1 6 (va_A [(h0, .inr (8, [.ref t0, .ref m0, .ref c0, .ref x0, .ref f0, .ref w0])), (t0, .inr (7, [.ref th1, .ref th2, .int 4])), (c0, .inr (0, [.int 0, .int 0, .int (-1), .int 0, .int 0, .ref ca5, .int 0, .ref ca7, .ref ca8, .ref ca9, .int 0, .ref ca11, .ref ca12, .ref ca13, .ref ca14, .int 0, .ref ca16])), (ca5, .inl (cyI, 20, .inl g5)), (o0, .inl (cyJ, 1, .inr (.inl go)))] sz) := by
  refine va_MetW (cc := cL_argument) (maxL := 4) (ret := (some .int)) (hh := [(0, 9, 12, 13), (0, 9, 15, 15)]) (by decide) rfl ?_
  intro p e s m args below meth c s₁ B hml hv
  obtain ⟨rfl, ⟨⟨hsz, hP, hK, hN⟩, hD0⟩, hDb, hbz, hG⟩ := hv
  have hx := B.exec
  have hb := B.bytes
  have hr := B.returns
  have hts := atoms_spec (ws := wsL_argument) B.pre
  have hown : s.vm.findClass RL = some m.cls := findClass_of_methodNamed B.named
  have hlocks := B.notSynchronized
  have hTb : c.exceptionTable.toList = [⟨0, 9, 12, 13⟩, ⟨0, 9, 15, 15⟩] := vx_table (x := yL_argument) B (hts _ List.mem_cons_self)
  have k_1 := hts (.classLink RL 13 "java/lang/IllegalArgumentException") (by decide +kernel)
  have k_2 := hts (.classLink RL 15 "java/lang/IllegalStateException") (by decide +kernel)
  subst hsz
  have hAb : ∀ q, va_A [(h0, .inr (8, [.ref t0, .ref m0, .ref c0, .ref x0, .ref f0, .ref w0])), (t0, .inr (7, [.ref th1, .ref th2, .int 4])), (c0, .inr (0, [.int 0, .int 0, .int (-1), .int 0, .int 0, .ref ca5, .int 0, .ref ca7, .ref ca8, .ref ca9, .int 0, .ref ca11, .ref ca12, .ref ca13, .ref ca14, .int 0, .ref ca16])), (ca5, .inl (cyI, 20, .inl g5)), (o0, .inl (cyJ, 1, .inr (.inl go)))] s.heap.size q → x_new base q := x_Ab hDb hbz
  have hD := hD0.self (sz := s.heap.size)
  generalize hAe : va_A [(h0, .inr (8, [.ref t0, .ref m0, .ref c0, .ref x0, .ref f0, .ref w0])), (t0, .inr (7, [.ref th1, .ref th2, .int 4])), (c0, .inr (0, [.int 0, .int 0, .int (-1), .int 0, .int 0, .ref ca5, .int 0, .ref ca7, .ref ca8, .ref ca9, .int 0, .ref ca11, .ref ca12, .ref ca13, .ref ca14, .int 0, .ref ca16])), (ca5, .inl (cyI, 20, .inl g5)), (o0, .inl (cyJ, 1, .inr (.inl go)))] s.heap.size = A at hD hAb ⊢
  have hA : ∀ q : Nat, s.heap.size ≤ q → A q := fun q h => by rw [← hAe]; exact Or.inr h
  have hl := lv_entry ([.ref h0, .int p0, .ref o0]) (n := 4) (Nat.le_of_ble_eq_true rfl)
  rw [lg_entry_eq]
  generalize (lg_sl ([.ref h0, .int p0, .ref o0]) ++ List.replicate (4 - (lg_sl ([.ref h0, .int p0, .ref o0])).length) Slot.unset).toArray = ls at hl ⊢
  have hl : lv_has ls 4 [(0, .ref h0), (1, .int p0), (2, .ref o0)] := hl
  obtain ⟨H, hH⟩ : ∃ z, z = s.heap := ⟨_, rfl⟩
  refine x_here hH ?_
  have hP : va_P (dC, dI) vwCl [(h0, .inr (8, [.ref t0, .ref m0, .ref c0, .ref x0, .ref f0, .ref w0])), (t0, .inr (7, [.ref th1, .ref th2, .int 4])), (c0, .inr (0, [.int 0, .int 0, .int (-1), .int 0, .int 0, .ref ca5, .int 0, .ref ca7, .ref ca8, .ref ca9, .int 0, .ref ca11, .ref ca12, .ref ca13, .ref ca14, .int 0, .ref ca16])), (ca5, .inl (cyI, 20, .inl g5)), (o0, .inl (cyJ, 1, .inr (.inl go)))] H := by rw [hH]; exact hP
  have hS : va_S A s.heap H [] := by rw [hH]; exact va_S.rf
  clear hH
  refine lv_aload_n hx hb dL_argument_0 rfl (lv_at hl 2 rfl) ?_
  refine lv_iconst (v := 0) hx hb dL_argument_1 (by decide) ?_
  refine lv_aload_n hx hb dL_argument_2 rfl (lv_at hl 0 rfl) ?_
  refine lv_iload_n hx hb dL_argument_3 rfl (lv_at hl 1 rfl) ?_
  have hPc := hP.sub (ws' := [(h0, .inr (8, [.ref t0, .ref m0, .ref c0, .ref x0, .ref f0, .ref w0])), (t0, .inr (7, [.ref th1, .ref th2, .int 4])), (c0, .inr (0, [.int 0, .int 0, .int (-1), .int 0, .int 0, .ref ca5, .int 0, .ref ca7, .ref ca8, .ref ca9, .int 0, .ref ca11, .ref ca12, .ref ca13, .ref ca14, .int 0, .ref ca16])), (ca5, .inl (cyI, 20, .inl g5))]) [0, 1, 2, 3] rfl
  have hDc := hDb.sub (ws' := [(h0, .inr (8, [.ref t0, .ref m0, .ref c0, .ref x0, .ref f0, .ref w0])), (t0, .inr (7, [.ref th1, .ref th2, .int 4])), (c0, .inr (0, [.int 0, .int 0, .int (-1), .int 0, .int 0, .ref ca5, .int 0, .ref ca7, .ref ca8, .ref ca9, .int 0, .ref ca11, .ref ca12, .ref ca13, .ref ca14, .int 0, .ref ca16])), (ca5, .inl (cyI, 20, .inl g5))]) [0, 1, 2, 3] (by decide) rfl
  have hFc := va_free (wc := [(h0, .inr (8, [.ref t0, .ref m0, .ref c0, .ref x0, .ref f0, .ref w0])), (t0, .inr (7, [.ref th1, .ref th2, .int 4])), (c0, .inr (0, [.int 0, .int 0, .int (-1), .int 0, .int 0, .ref ca5, .int 0, .ref ca7, .ref ca8, .ref ca9, .int 0, .ref ca11, .ref ca12, .ref ca13, .ref ca14, .int 0, .ref ca16])), (ca5, .inl (cyI, 20, .inl g5))]) hD hS hA [0, 1, 2, 3] rfl
  refine vx_calli (vx_runV (As := [.int p0]) (rest := [.int 0, .ref o0]) ⟨hx, hb, hml, hown, hts⟩ (c_X8_argument l hl9 dC dI cyI cyZ cyJ base H.size h0 t0 m0 c0 x0 f0 w0 th1 th2 ca5 ca7 ca8 ca9 ca11 ca12 ca13 ca14 ca16 g5 p0) (cwV 1 hts gL_argument_X8_argument rfl rfl rfl (by decide +kernel) ⟨Nat.le_of_ble_eq_true rfl, Nat.le_of_ble_eq_true rfl⟩) (x_pVX hG hN hK hPc hDc (Nat.le_trans hbz hS.1) (fun q h1 h2 => hS.2.1 q h1 (fun h3 => h2 (hAb q h3))) (ci := 8) (q0 := 0) rfl rfl) rfl rfl hl.1 rfl (lv_room (Nat.le_of_ble_eq_true rfl)) dL_argument_4 ⟨Nat.le_of_ble_eq_true rfl, Nat.le_of_ble_eq_true rfl⟩) hS (fun q _ h => hFc q h) hFc (fun q _ h => hFc q h) (fun E ce q9 u t H1 locs ht hvm hpx hE hz1 hk1 hS hce hcv hcl => ?_) (fun r_5 u t H1 locs ht hvm hw hB hz1 hk1 hS => ?_)
  · obtain ⟨hP, hD⟩ := va_join (wr := [(o0, .inl (cyJ, 1, .inr (.inl go)))]) (w1 := []) hP hD [0, 1, 2, 3] [4] rfl rfl (by decide) (by decide) hk1 hFc x_P0 x_D0
    generalize H1 = H at hP hS hce ⊢
    have hP : va_P (dC, dI) vwCl [(o0, .inl (cyJ, 1, .inr (.inl go)))] H := hP
    have hD : va_D A [(o0, .inl (cyJ, 1, .inr (.inl go)))] := hD
    rcases hE with ⟨hk, rfl⟩ | ⟨hk, rfl⟩
    · refine vx_catch (name := "java/lang/IllegalArgumentException") hown [] ⟨0, 9, 12, 13⟩ [⟨0, 9, 15, 15⟩] hTb (fun z hz => by cases hz) (by decide) (by decide) k_1 (hG.2.2.2.1.use rfl) hce hcv hcl ?_
      refine W.widen (k := 1) (n := 6) (Nat.le_of_ble_eq_true rfl) (Nat.le_of_ble_eq_true rfl) ?_
      refine lv_astore_n (lv' := [(3, .ref q9), (0, .ref h0), (1, .int p0), (2, .ref o0)]) hx hb dL_argument_12 rfl hl (by decide) rfl (fun ls hl => ?_)
      refine lv_iconst (v := 1) hx hb dL_argument_13 (by decide) ?_
      have hP9 := hP.sub (ws' := [(o0, .inl (cyJ, 1, .inr (.inl go)))]) [0] rfl
      have hD9 := hD.sub (ws' := [(o0, .inl (cyJ, 1, .inr (.inl go)))]) [0] (by decide) rfl
      exact W.iret hx hb hr (fun t ht hW => ⟨⟨_, (), rfl, hk.symm, go, by rw [ht]; exact hP9, va_K.moved hW.alike hK, hD9, fun h => absurd (hk.symm.trans h) (by decide)⟩, hS.F ht⟩) hS.2.2 dL_argument_14
    · refine vx_catch (name := "java/lang/IllegalStateException") hown [⟨0, 9, 12, 13⟩] ⟨0, 9, 15, 15⟩ [] hTb (fun z hz => Or.inr (by rw [List.mem_singleton.mp hz]; exact ⟨by decide, "java/lang/IllegalArgumentException", k_1, hG.2.2.2.2.2.2.2.2⟩)) (by decide) (by decide) k_2 (hG.2.2.2.2.1.use rfl) hce hcv hcl ?_
      refine W.widen (k := 1) (n := 6) (Nat.le_of_ble_eq_true rfl) (Nat.le_of_ble_eq_true rfl) ?_
      refine lv_astore_n (lv' := [(3, .ref q9), (0, .ref h0), (1, .int p0), (2, .ref o0)]) hx hb dL_argument_15 rfl hl (by decide) rfl (fun ls hl => ?_)
      refine lv_iconst (v := 2) hx hb dL_argument_16 (by decide) ?_
      have hP9 := hP.sub (ws' := [(o0, .inl (cyJ, 1, .inr (.inl go)))]) [0] rfl
      have hD9 := hD.sub (ws' := [(o0, .inl (cyJ, 1, .inr (.inl go)))]) [0] (by decide) rfl
      exact W.iret hx hb hr (fun t ht hW => ⟨⟨_, (), rfl, hk.symm, go, by rw [ht]; exact hP9, va_K.moved hW.alike hK, hD9, fun h => absurd (hk.symm.trans h) (by decide)⟩, hS.F ht⟩) hS.2.2 dL_argument_17
  · obtain ⟨hP, hD⟩ := va_join (wr := [(o0, .inl (cyJ, 1, .inr (.inl go)))]) (w1 := []) hP hD [0, 1, 2, 3] [4] rfl rfl (by decide) (by decide) hk1 hFc x_P0 x_D0
    generalize H1 = H at hP hS ⊢
    have hP : va_P (dC, dI) vwCl [(o0, .inl (cyJ, 1, .inr (.inl go)))] H := hP
    have hD : va_D A [(o0, .inl (cyJ, 1, .inr (.inl go)))] := hD
    refine W.widen (k := 1) (n := 6) (Nat.le_of_ble_eq_true rfl) (Nat.le_of_ble_eq_true rfl) ?_
    refine lv_i2l (v := (Int32.toInt64 r_5)) hx hb dL_argument_7 rfl ?_
    refine va_last hx hb hK hP hD hS 0 2 rfl rfl (x_lit _ _ (by decide)) dL_argument_8 (fun H locs hP hD hS => ?_)
    have hP : va_P (dC, dI) vwCl [(o0, .inl (cyJ, 1, .inr (.inl (vp_updL go (Int32.toNatClampNeg 0) (Int32.toInt64 r_5)))))] H := hP
    have hD : va_D A [(o0, .inl (cyJ, 1, .inr (.inl (vp_updL go (Int32.toNatClampNeg 0) (Int32.toInt64 r_5)))))] := hD
    refine lv_goto (tgt := 18) hx hb dL_argument_9 (by decide) ?_
    refine lv_iconst (v := 0) hx hb dL_argument_18 (by decide) ?_
    have hP9 := hP.sub (ws' := [(o0, .inl (cyJ, 1, .inr (.inl (vp_updL go (Int32.toNatClampNeg 0) (Int32.toInt64 r_5)))))]) [0] rfl
    have hD9 := hD.sub (ws' := [(o0, .inl (cyJ, 1, .inr (.inl (vp_updL go (Int32.toNatClampNeg 0) (Int32.toInt64 r_5)))))]) [0] (by decide) rfl
    exact W.iret hx hb hr (fun t ht hW => ⟨⟨_, (), rfl, by rw [hw], (vp_updL go (Int32.toNatClampNeg 0) (Int32.toInt64 r_5)), by rw [ht]; exact hP9, va_K.moved hW.alike hK, hD9, fun _ => by rw [hw]; exact x_out⟩, hS.F ht⟩) hS.2.2 dL_argument_19

set_option maxHeartbeats 4000000 in
set_option maxRecDepth 100000 in
theorem c_L_put (l : Launch) (hl9 : l.stackTraces = false) (dC : Nat → ClassId) (dI : Nat → Nat → Nat) (cyI cyZ cyJ : ClassId) (base : Nat) (sz : Nat) (h0 : Nat) (t0 : Nat) (m0 : Nat) (c0 : Nat) (x0 : Nat) (f0 : Nat) (w0 : Nat) (th1 : Nat) (th2 : Nat) (ma0 : Nat) (ma1 : Nat) (ma3 : Nat) (ma4 : Nat) (ma5 : Nat) (ma6 : Nat) (ma7 : Nat) (ca5 : Nat) (ca7 : Nat) (ca8 : Nat) (ca9 : Nat) (ca11 : Nat) (ca12 : Nat) (ca13 : Nat) (ca14 : Nat) (ca16 : Nat) (g7 : Nat → Int32) (g8 : Nat → Int32) (g9 : Nat → Int32) (g12 : Nat → Int32) (g13 : Nat → Int32) (p0 : Int32) (p1 : Int32) (p2 : Int32) (o0 : Nat) (go : Nat → Int64) : Met l yL_put wsL_put ({ frames := 7, cells := 1, slots := 6, locals := 131 }) (va_Pc [.ref h0, .int p0, .int p1, .int p2, .ref o0] (x_PreX (dC, dI) (x_T cyI cyZ cyJ) [(h0, .inr (8, [.ref t0, .ref m0, .ref c0, .ref x0, .ref f0, .ref w0])), (t0, .inr (7, [.ref th1, .ref th2, .int 4])), (m0, .inr (4, [.ref ma0, .ref ma1, .int 0, .ref ma3, .ref ma4, .ref ma5, .ref ma6, .ref ma7, .int 0])), (c0, .inr (0, [.int 0, .int 0, .int (-1), .int 0, .int 0, .ref ca5, .int 0, .ref ca7, .ref ca8, .ref ca9, .int 0, .ref ca11, .ref ca12, .ref ca13, .ref ca14, .int 0, .ref ca16])), (ca7, .inl (cyI, 1000, .inl g7)), (ca8, .inl (cyI, 1000, .inl g8)), (ca9, .inl (cyI, 1000, .inl g9)), (ca12, .inl (cyI, 1000, .inl g12)), (ca13, .inl (cyI, 1000, .inl g13)), (o0, .inl (cyJ, 1, .inr (.inl go)))] base sz)) (va_Qi (fun (r : Int32) (_ : Unit) => r = (f_X8_put p0 p1 p2).1) (fun (_ : Unit) (t : State) => ∃ u : Nat → Int64, va_P (dC, dI) vwCl [(o0, .inl (cyJ, 1, .inr (.inl u)))] t.heap ∧ va_K (dC, dI) vwCl (x_T cyI cyZ cyJ) t ∧ va_D (va_A [(h0, .inr (8, [.ref t0, .ref m0, .ref c0, .ref x0, .ref f0, .ref w0])), (t0, .inr (7, [.ref th1, .ref th2, .int 4])), (m0, .inr (4, [.ref ma0, .ref ma1, .int 0, .ref ma3, .ref ma4, .ref ma5, .ref ma6, .ref ma7, .int 0])), (c0, .inr (0, [.int 0, .int 0, .int (-1), .int 0, .int 0, .ref ca5, .int 0, .ref ca7, .ref ca8, .ref ca9, .int 0, .ref ca11, .ref ca12, .ref ca13, .ref ca14, .int 0, .ref ca16])), (ca7, .inl (cyI, 1000, .inl g7)), (ca8, .inl (cyI, 1000, .inl g8)), (ca9, .inl (cyI, 1000, .inl g9)), (ca12, .inl (cyI, 1000, .inl g12)), (ca13, .inl (cyI, 1000, .inl g13)), (o0, .inl (cyJ, 1, .inr (.inl go)))] sz) [(o0, .inl (cyJ, 1, .inr (.inl u)))] ∧ ((f_X8_put p0 p1 p2).1 = 0 → u 0 = Int32.toInt64 (f_X8_put p0 p1 p2).2)) (va_A [(h0, .inr (8, [.ref t0, .ref m0, .ref c0, .ref x0, .ref f0, .ref w0])), (t0, .inr (7, [.ref th1, .ref th2, .int 4])), (m0, .inr (4, [.ref ma0, .ref ma1, .int 0, .ref ma3, .ref ma4, .ref ma5, .ref ma6, .ref ma7, .int 0])), (c0, .inr (0, [.int 0, .int 0, .int (-1), .int 0, .int 0, .ref ca5, .int 0, .ref ca7, .ref ca8, .ref ca9, .int 0, .ref ca11, .ref ca12, .ref ca13, .ref ca14, .int 0, .ref ca16])), (ca7, .inl (cyI, 1000, .inl g7)), (ca8, .inl (cyI, 1000, .inl g8)), (ca9, .inl (cyI, 1000, .inl g9)), (ca12, .inl (cyI, 1000, .inl g12)), (ca13, .inl (cyI, 1000, .inl g13)), (o0, .inl (cyJ, 1, .inr (.inl go)))] sz)) 1 6 (va_A [(h0, .inr (8, [.ref t0, .ref m0, .ref c0, .ref x0, .ref f0, .ref w0])), (t0, .inr (7, [.ref th1, .ref th2, .int 4])), (m0, .inr (4, [.ref ma0, .ref ma1, .int 0, .ref ma3, .ref ma4, .ref ma5, .ref ma6, .ref ma7, .int 0])), (c0, .inr (0, [.int 0, .int 0, .int (-1), .int 0, .int 0, .ref ca5, .int 0, .ref ca7, .ref ca8, .ref ca9, .int 0, .ref ca11, .ref ca12, .ref ca13, .ref ca14, .int 0, .ref ca16])), (ca7, .inl (cyI, 1000, .inl g7)), (ca8, .inl (cyI, 1000, .inl g8)), (ca9, .inl (cyI, 1000, .inl g9)), (ca12, .inl (cyI, 1000, .inl g12)), (ca13, .inl (cyI, 1000, .inl g13)), (o0, .inl (cyJ, 1, .inr (.inl go)))] sz) := by
  refine va_MetW (cc := cL_put) (maxL := 6) (ret := (some .int)) (hh := [(0, 12, 15, 13), (0, 12, 19, 15)]) (by decide) rfl ?_
  intro p e s m args below meth c s₁ B hml hv
  obtain ⟨rfl, ⟨⟨hsz, hP, hK, hN⟩, hD0⟩, hDb, hbz, hG⟩ := hv
  have hx := B.exec
  have hb := B.bytes
  have hr := B.returns
  have hts := atoms_spec (ws := wsL_put) B.pre
  have hown : s.vm.findClass RL = some m.cls := findClass_of_methodNamed B.named
  have hlocks := B.notSynchronized
  have hTb : c.exceptionTable.toList = [⟨0, 12, 15, 13⟩, ⟨0, 12, 19, 15⟩] := vx_table (x := yL_put) B (hts _ List.mem_cons_self)
  have k_1 := hts (.classLink RL 13 "java/lang/IllegalArgumentException") (by decide +kernel)
  have k_2 := hts (.classLink RL 15 "java/lang/IllegalStateException") (by decide +kernel)
  subst hsz
  have hAb : ∀ q, va_A [(h0, .inr (8, [.ref t0, .ref m0, .ref c0, .ref x0, .ref f0, .ref w0])), (t0, .inr (7, [.ref th1, .ref th2, .int 4])), (m0, .inr (4, [.ref ma0, .ref ma1, .int 0, .ref ma3, .ref ma4, .ref ma5, .ref ma6, .ref ma7, .int 0])), (c0, .inr (0, [.int 0, .int 0, .int (-1), .int 0, .int 0, .ref ca5, .int 0, .ref ca7, .ref ca8, .ref ca9, .int 0, .ref ca11, .ref ca12, .ref ca13, .ref ca14, .int 0, .ref ca16])), (ca7, .inl (cyI, 1000, .inl g7)), (ca8, .inl (cyI, 1000, .inl g8)), (ca9, .inl (cyI, 1000, .inl g9)), (ca12, .inl (cyI, 1000, .inl g12)), (ca13, .inl (cyI, 1000, .inl g13)), (o0, .inl (cyJ, 1, .inr (.inl go)))] s.heap.size q → x_new base q := x_Ab hDb hbz
  have hD := hD0.self (sz := s.heap.size)
  generalize hAe : va_A [(h0, .inr (8, [.ref t0, .ref m0, .ref c0, .ref x0, .ref f0, .ref w0])), (t0, .inr (7, [.ref th1, .ref th2, .int 4])), (m0, .inr (4, [.ref ma0, .ref ma1, .int 0, .ref ma3, .ref ma4, .ref ma5, .ref ma6, .ref ma7, .int 0])), (c0, .inr (0, [.int 0, .int 0, .int (-1), .int 0, .int 0, .ref ca5, .int 0, .ref ca7, .ref ca8, .ref ca9, .int 0, .ref ca11, .ref ca12, .ref ca13, .ref ca14, .int 0, .ref ca16])), (ca7, .inl (cyI, 1000, .inl g7)), (ca8, .inl (cyI, 1000, .inl g8)), (ca9, .inl (cyI, 1000, .inl g9)), (ca12, .inl (cyI, 1000, .inl g12)), (ca13, .inl (cyI, 1000, .inl g13)), (o0, .inl (cyJ, 1, .inr (.inl go)))] s.heap.size = A at hD hAb ⊢
  have hA : ∀ q : Nat, s.heap.size ≤ q → A q := fun q h => by rw [← hAe]; exact Or.inr h
  have hl := lv_entry ([.ref h0, .int p0, .int p1, .int p2, .ref o0]) (n := 6) (Nat.le_of_ble_eq_true rfl)
  rw [lg_entry_eq]
  generalize (lg_sl ([.ref h0, .int p0, .int p1, .int p2, .ref o0]) ++ List.replicate (6 - (lg_sl ([.ref h0, .int p0, .int p1, .int p2, .ref o0])).length) Slot.unset).toArray = ls at hl ⊢
  have hl : lv_has ls 6 [(0, .ref h0), (1, .int p0), (2, .int p1), (3, .int p2), (4, .ref o0)] := hl
  obtain ⟨H, hH⟩ : ∃ z, z = s.heap := ⟨_, rfl⟩
  refine x_here hH ?_
  have hP : va_P (dC, dI) vwCl [(h0, .inr (8, [.ref t0, .ref m0, .ref c0, .ref x0, .ref f0, .ref w0])), (t0, .inr (7, [.ref th1, .ref th2, .int 4])), (m0, .inr (4, [.ref ma0, .ref ma1, .int 0, .ref ma3, .ref ma4, .ref ma5, .ref ma6, .ref ma7, .int 0])), (c0, .inr (0, [.int 0, .int 0, .int (-1), .int 0, .int 0, .ref ca5, .int 0, .ref ca7, .ref ca8, .ref ca9, .int 0, .ref ca11, .ref ca12, .ref ca13, .ref ca14, .int 0, .ref ca16])), (ca7, .inl (cyI, 1000, .inl g7)), (ca8, .inl (cyI, 1000, .inl g8)), (ca9, .inl (cyI, 1000, .inl g9)), (ca12, .inl (cyI, 1000, .inl g12)), (ca13, .inl (cyI, 1000, .inl g13)), (o0, .inl (cyJ, 1, .inr (.inl go)))] H := by rw [hH]; exact hP
  have hS : va_S A s.heap H [] := by rw [hH]; exact va_S.rf
  clear hH
  refine lv_aload hx hb dL_put_0 (lv_at hl 4 rfl) ?_
  refine lv_iconst (v := 0) hx hb dL_put_2 (by decide) ?_
  refine lv_aload_n hx hb dL_put_3 rfl (lv_at hl 0 rfl) ?_
  refine lv_iload_n hx hb dL_put_4 rfl (lv_at hl 1 rfl) ?_
  refine lv_iload_n hx hb dL_put_5 rfl (lv_at hl 2 rfl) ?_
  refine lv_iload_n hx hb dL_put_6 rfl (lv_at hl 3 rfl) ?_
  have hPc := hP.sub (ws' := [(h0, .inr (8, [.ref t0, .ref m0, .ref c0, .ref x0, .ref f0, .ref w0])), (t0, .inr (7, [.ref th1, .ref th2, .int 4])), (m0, .inr (4, [.ref ma0, .ref ma1, .int 0, .ref ma3, .ref ma4, .ref ma5, .ref ma6, .ref ma7, .int 0])), (c0, .inr (0, [.int 0, .int 0, .int (-1), .int 0, .int 0, .ref ca5, .int 0, .ref ca7, .ref ca8, .ref ca9, .int 0, .ref ca11, .ref ca12, .ref ca13, .ref ca14, .int 0, .ref ca16])), (ca7, .inl (cyI, 1000, .inl g7)), (ca8, .inl (cyI, 1000, .inl g8)), (ca9, .inl (cyI, 1000, .inl g9)), (ca12, .inl (cyI, 1000, .inl g12)), (ca13, .inl (cyI, 1000, .inl g13))]) [0, 1, 2, 3, 4, 5, 6, 7, 8] rfl
  have hDc := hDb.sub (ws' := [(h0, .inr (8, [.ref t0, .ref m0, .ref c0, .ref x0, .ref f0, .ref w0])), (t0, .inr (7, [.ref th1, .ref th2, .int 4])), (m0, .inr (4, [.ref ma0, .ref ma1, .int 0, .ref ma3, .ref ma4, .ref ma5, .ref ma6, .ref ma7, .int 0])), (c0, .inr (0, [.int 0, .int 0, .int (-1), .int 0, .int 0, .ref ca5, .int 0, .ref ca7, .ref ca8, .ref ca9, .int 0, .ref ca11, .ref ca12, .ref ca13, .ref ca14, .int 0, .ref ca16])), (ca7, .inl (cyI, 1000, .inl g7)), (ca8, .inl (cyI, 1000, .inl g8)), (ca9, .inl (cyI, 1000, .inl g9)), (ca12, .inl (cyI, 1000, .inl g12)), (ca13, .inl (cyI, 1000, .inl g13))]) [0, 1, 2, 3, 4, 5, 6, 7, 8] (by decide) rfl
  have hFc := va_free (wc := [(h0, .inr (8, [.ref t0, .ref m0, .ref c0, .ref x0, .ref f0, .ref w0])), (t0, .inr (7, [.ref th1, .ref th2, .int 4])), (m0, .inr (4, [.ref ma0, .ref ma1, .int 0, .ref ma3, .ref ma4, .ref ma5, .ref ma6, .ref ma7, .int 0])), (c0, .inr (0, [.int 0, .int 0, .int (-1), .int 0, .int 0, .ref ca5, .int 0, .ref ca7, .ref ca8, .ref ca9, .int 0, .ref ca11, .ref ca12, .ref ca13, .ref ca14, .int 0, .ref ca16])), (ca7, .inl (cyI, 1000, .inl g7)), (ca8, .inl (cyI, 1000, .inl g8)), (ca9, .inl (cyI, 1000, .inl g9)), (ca12, .inl (cyI, 1000, .inl g12)), (ca13, .inl (cyI, 1000, .inl g13))]) hD hS hA [0, 1, 2, 3, 4, 5, 6, 7, 8] rfl
  refine vx_calli (vx_runV (As := [.int p0, .int p1, .int p2]) (rest := [.int 0, .ref o0]) ⟨hx, hb, hml, hown, hts⟩ (c_X8_put l hl9 dC dI cyI cyZ cyJ base H.size h0 t0 m0 c0 x0 f0 w0 th1 th2 ma0 ma1 ma3 ma4 ma5 ma6 ma7 ca5 ca7 ca8 ca9 ca11 ca12 ca13 ca14 ca16 g7 g8 g9 g12 g13 p0 p1 p2) (cwV 3 hts gL_put_X8_put rfl rfl rfl (by decide +kernel) ⟨Nat.le_of_ble_eq_true rfl, Nat.le_of_ble_eq_true rfl⟩) (x_pVX hG hN hK hPc hDc (Nat.le_trans hbz hS.1) (fun q h1 h2 => hS.2.1 q h1 (fun h3 => h2 (hAb q h3))) (ci := 8) (q0 := 0) rfl rfl) rfl rfl hl.1 rfl (lv_room (Nat.le_of_ble_eq_true rfl)) dL_put_7 ⟨Nat.le_of_ble_eq_true rfl, Nat.le_of_ble_eq_true rfl⟩) hS (fun q _ h => hFc q h) hFc (fun q _ h => hFc q h) (fun E ce q9 u t H1 locs ht hvm hpx hE hz1 hk1 hS hce hcv hcl => ?_) (fun r_5 u t H1 locs ht hvm hw hB hz1 hk1 hS => ?_)
  · obtain ⟨hP, hD⟩ := va_join (wr := [(o0, .inl (cyJ, 1, .inr (.inl go)))]) (w1 := []) hP hD [0, 1, 2, 3, 4, 5, 6, 7, 8] [9] rfl rfl (by decide) (by decide) hk1 hFc x_P0 x_D0
    generalize H1 = H at hP hS hce ⊢
    have hP : va_P (dC, dI) vwCl [(o0, .inl (cyJ, 1, .inr (.inl go)))] H := hP
    have hD : va_D A [(o0, .inl (cyJ, 1, .inr (.inl go)))] := hD
    rcases hE with ⟨hk, rfl⟩ | ⟨hk, rfl⟩
    · refine vx_catch (name := "java/lang/IllegalArgumentException") hown [] ⟨0, 12, 15, 13⟩ [⟨0, 12, 19, 15⟩] hTb (fun z hz => by cases hz) (by decide) (by decide) k_1 (hG.2.2.2.1.use rfl) hce hcv hcl ?_
      refine W.widen (k := 1) (n := 6) (Nat.le_of_ble_eq_true rfl) (Nat.le_of_ble_eq_true rfl) ?_
      refine lv_astore (lv' := [(5, .ref q9), (0, .ref h0), (1, .int p0), (2, .int p1), (3, .int p2), (4, .ref o0)]) hx hb dL_put_15 hl (by decide) rfl (fun ls hl => ?_)
      refine lv_iconst (v := 1) hx hb dL_put_17 (by decide) ?_
      have hP9 := hP.sub (ws' := [(o0, .inl (cyJ, 1, .inr (.inl go)))]) [0] rfl
      have hD9 := hD.sub (ws' := [(o0, .inl (cyJ, 1, .inr (.inl go)))]) [0] (by decide) rfl
      exact W.iret hx hb hr (fun t ht hW => ⟨⟨_, (), rfl, hk.symm, go, by rw [ht]; exact hP9, va_K.moved hW.alike hK, hD9, fun h => absurd (hk.symm.trans h) (by decide)⟩, hS.F ht⟩) hS.2.2 dL_put_18
    · refine vx_catch (name := "java/lang/IllegalStateException") hown [⟨0, 12, 15, 13⟩] ⟨0, 12, 19, 15⟩ [] hTb (fun z hz => Or.inr (by rw [List.mem_singleton.mp hz]; exact ⟨by decide, "java/lang/IllegalArgumentException", k_1, hG.2.2.2.2.2.2.2.2⟩)) (by decide) (by decide) k_2 (hG.2.2.2.2.1.use rfl) hce hcv hcl ?_
      refine W.widen (k := 1) (n := 6) (Nat.le_of_ble_eq_true rfl) (Nat.le_of_ble_eq_true rfl) ?_
      refine lv_astore (lv' := [(5, .ref q9), (0, .ref h0), (1, .int p0), (2, .int p1), (3, .int p2), (4, .ref o0)]) hx hb dL_put_19 hl (by decide) rfl (fun ls hl => ?_)
      refine lv_iconst (v := 2) hx hb dL_put_21 (by decide) ?_
      have hP9 := hP.sub (ws' := [(o0, .inl (cyJ, 1, .inr (.inl go)))]) [0] rfl
      have hD9 := hD.sub (ws' := [(o0, .inl (cyJ, 1, .inr (.inl go)))]) [0] (by decide) rfl
      exact W.iret hx hb hr (fun t ht hW => ⟨⟨_, (), rfl, hk.symm, go, by rw [ht]; exact hP9, va_K.moved hW.alike hK, hD9, fun h => absurd (hk.symm.trans h) (by decide)⟩, hS.F ht⟩) hS.2.2 dL_put_22
  · obtain ⟨hP, hD⟩ := va_join (wr := [(o0, .inl (cyJ, 1, .inr (.inl go)))]) (w1 := []) hP hD [0, 1, 2, 3, 4, 5, 6, 7, 8] [9] rfl rfl (by decide) (by decide) hk1 hFc x_P0 x_D0
    generalize H1 = H at hP hS ⊢
    have hP : va_P (dC, dI) vwCl [(o0, .inl (cyJ, 1, .inr (.inl go)))] H := hP
    have hD : va_D A [(o0, .inl (cyJ, 1, .inr (.inl go)))] := hD
    refine W.widen (k := 1) (n := 6) (Nat.le_of_ble_eq_true rfl) (Nat.le_of_ble_eq_true rfl) ?_
    refine lv_i2l (v := (Int32.toInt64 r_5)) hx hb dL_put_10 rfl ?_
    refine va_last hx hb hK hP hD hS 0 2 rfl rfl (x_lit _ _ (by decide)) dL_put_11 (fun H locs hP hD hS => ?_)
    have hP : va_P (dC, dI) vwCl [(o0, .inl (cyJ, 1, .inr (.inl (vp_updL go (Int32.toNatClampNeg 0) (Int32.toInt64 r_5)))))] H := hP
    have hD : va_D A [(o0, .inl (cyJ, 1, .inr (.inl (vp_updL go (Int32.toNatClampNeg 0) (Int32.toInt64 r_5)))))] := hD
    refine lv_goto (tgt := 23) hx hb dL_put_12 (by decide) ?_
    refine lv_iconst (v := 0) hx hb dL_put_23 (by decide) ?_
    have hP9 := hP.sub (ws' := [(o0, .inl (cyJ, 1, .inr (.inl (vp_updL go (Int32.toNatClampNeg 0) (Int32.toInt64 r_5)))))]) [0] rfl
    have hD9 := hD.sub (ws' := [(o0, .inl (cyJ, 1, .inr (.inl (vp_updL go (Int32.toNatClampNeg 0) (Int32.toInt64 r_5)))))]) [0] (by decide) rfl
    exact W.iret hx hb hr (fun t ht hW => ⟨⟨_, (), rfl, by rw [hw], (vp_updL go (Int32.toNatClampNeg 0) (Int32.toInt64 r_5)), by rw [ht]; exact hP9, va_K.moved hW.alike hK, hD9, fun _ => by rw [hw]; exact x_out⟩, hS.F ht⟩) hS.2.2 dL_put_24

set_option maxHeartbeats 4000000 in
set_option maxRecDepth 100000 in
theorem c_L_to (l : Launch) (hl9 : l.stackTraces = false) (dC : Nat → ClassId) (dI : Nat → Nat → Nat) (cyI cyZ cyJ : ClassId) (base : Nat) (sz : Nat) (h0 : Nat) (t0 : Nat) (m0 : Nat) (c0 : Nat) (x0 : Nat) (f0 : Nat) (w0 : Nat) (ca5 : Nat) (ca7 : Nat) (ca8 : Nat) (ca9 : Nat) (ca11 : Nat) (ca12 : Nat) (ca13 : Nat) (ca14 : Nat) (ca16 : Nat) (p0 : Int32) (o0 : Nat) (go : Nat → Int64) : Met l yL_to wsL_to ({ frames := 7, cells := 1, slots := 6, locals := 111 }) (va_Pc [.ref h0, .int p0, .ref o0] (x_PreX (dC, dI) (x_T cyI cyZ cyJ) [(h0, .inr (8, [.ref t0, .ref m0, .ref c0, .ref x0, .ref f0, .ref w0])), (c0, .inr (0, [.int 0, .int 0, .int (-1), .int 0, .int 0, .ref ca5, .int 0, .ref ca7, .ref ca8, .ref ca9, .int 0, .ref ca11, .ref ca12, .ref ca13, .ref ca14, .int 0, .ref ca16])), (o0, .inl (cyJ, 1, .inr (.inl go)))] base sz)) (va_Qi (fun (r : Int32) (_ : Unit) => r = (f_X8_to p0).1) (fun (_ : Unit) (t : State) => ∃ u : Nat → Int64, va_P (dC, dI) vwCl [(o0, .inl (cyJ, 1, .inr (.inl u)))] t.heap ∧ va_K (dC, dI) vwCl (x_T cyI cyZ cyJ) t ∧ va_D (va_A [(h0, .inr (8, [.ref t0, .ref m0, .ref c0, .ref x0, .ref f0, .ref w0])), (c0, .inr (0, [.int 0, .int 0, .int (-1), .int 0, .int 0, .ref ca5, .int 0, .ref ca7, .ref ca8, .ref ca9, .int 0, .ref ca11, .ref ca12, .ref ca13, .ref ca14, .int 0, .ref ca16])), (o0, .inl (cyJ, 1, .inr (.inl go)))] sz) [(o0, .inl (cyJ, 1, .inr (.inl u)))] ∧ ((f_X8_to p0).1 = 0 → u 0 = Int32.toInt64 (f_X8_to p0).2)) (va_A [(h0, .inr (8, [.ref t0, .ref m0, .ref c0, .ref x0, .ref f0, .ref w0])), (c0, .inr (0, [.int 0, .int 0, .int (-1), .int 0, .int 0, .ref ca5, .int 0, .ref ca7, .ref ca8, .ref ca9, .int 0, .ref ca11, .ref ca12, .ref ca13, .ref ca14, .int 0, .ref ca16])), (o0, .inl (cyJ, 1, .inr (.inl go)))] sz)) 1 6 (va_A [(h0, .inr (8, [.ref t0, .ref m0, .ref c0, .ref x0, .ref f0, .ref w0])), (c0, .inr (0, [.int 0, .int 0, .int (-1), .int 0, .int 0, .ref ca5, .int 0, .ref ca7, .ref ca8, .ref ca9, .int 0, .ref ca11, .ref ca12, .ref ca13, .ref ca14, .int 0, .ref ca16])), (o0, .inl (cyJ, 1, .inr (.inl go)))] sz) := by
  refine va_MetW (cc := cL_to) (maxL := 4) (ret := (some .int)) (hh := [(0, 9, 12, 13), (0, 9, 15, 15)]) (by decide) rfl ?_
  intro p e s m args below meth c s₁ B hml hv
  obtain ⟨rfl, ⟨⟨hsz, hP, hK, hN⟩, hD0⟩, hDb, hbz, hG⟩ := hv
  have hx := B.exec
  have hb := B.bytes
  have hr := B.returns
  have hts := atoms_spec (ws := wsL_to) B.pre
  have hown : s.vm.findClass RL = some m.cls := findClass_of_methodNamed B.named
  have hlocks := B.notSynchronized
  have hTb : c.exceptionTable.toList = [⟨0, 9, 12, 13⟩, ⟨0, 9, 15, 15⟩] := vx_table (x := yL_to) B (hts _ List.mem_cons_self)
  have k_1 := hts (.classLink RL 13 "java/lang/IllegalArgumentException") (by decide +kernel)
  have k_2 := hts (.classLink RL 15 "java/lang/IllegalStateException") (by decide +kernel)
  subst hsz
  have hAb : ∀ q, va_A [(h0, .inr (8, [.ref t0, .ref m0, .ref c0, .ref x0, .ref f0, .ref w0])), (c0, .inr (0, [.int 0, .int 0, .int (-1), .int 0, .int 0, .ref ca5, .int 0, .ref ca7, .ref ca8, .ref ca9, .int 0, .ref ca11, .ref ca12, .ref ca13, .ref ca14, .int 0, .ref ca16])), (o0, .inl (cyJ, 1, .inr (.inl go)))] s.heap.size q → x_new base q := x_Ab hDb hbz
  have hD := hD0.self (sz := s.heap.size)
  generalize hAe : va_A [(h0, .inr (8, [.ref t0, .ref m0, .ref c0, .ref x0, .ref f0, .ref w0])), (c0, .inr (0, [.int 0, .int 0, .int (-1), .int 0, .int 0, .ref ca5, .int 0, .ref ca7, .ref ca8, .ref ca9, .int 0, .ref ca11, .ref ca12, .ref ca13, .ref ca14, .int 0, .ref ca16])), (o0, .inl (cyJ, 1, .inr (.inl go)))] s.heap.size = A at hD hAb ⊢
  have hA : ∀ q : Nat, s.heap.size ≤ q → A q := fun q h => by rw [← hAe]; exact Or.inr h
  have hl := lv_entry ([.ref h0, .int p0, .ref o0]) (n := 4) (Nat.le_of_ble_eq_true rfl)
  rw [lg_entry_eq]
  generalize (lg_sl ([.ref h0, .int p0, .ref o0]) ++ List.replicate (4 - (lg_sl ([.ref h0, .int p0, .ref o0])).length) Slot.unset).toArray = ls at hl ⊢
  have hl : lv_has ls 4 [(0, .ref h0), (1, .int p0), (2, .ref o0)] := hl
  obtain ⟨H, hH⟩ : ∃ z, z = s.heap := ⟨_, rfl⟩
  refine x_here hH ?_
  have hP : va_P (dC, dI) vwCl [(h0, .inr (8, [.ref t0, .ref m0, .ref c0, .ref x0, .ref f0, .ref w0])), (c0, .inr (0, [.int 0, .int 0, .int (-1), .int 0, .int 0, .ref ca5, .int 0, .ref ca7, .ref ca8, .ref ca9, .int 0, .ref ca11, .ref ca12, .ref ca13, .ref ca14, .int 0, .ref ca16])), (o0, .inl (cyJ, 1, .inr (.inl go)))] H := by rw [hH]; exact hP
  have hS : va_S A s.heap H [] := by rw [hH]; exact va_S.rf
  clear hH
  refine lv_aload_n hx hb dL_to_0 rfl (lv_at hl 2 rfl) ?_
  refine lv_iconst (v := 0) hx hb dL_to_1 (by decide) ?_
  refine lv_aload_n hx hb dL_to_2 rfl (lv_at hl 0 rfl) ?_
  refine lv_iload_n hx hb dL_to_3 rfl (lv_at hl 1 rfl) ?_
  have hPc := hP.sub (ws' := [(h0, .inr (8, [.ref t0, .ref m0, .ref c0, .ref x0, .ref f0, .ref w0])), (c0, .inr (0, [.int 0, .int 0, .int (-1), .int 0, .int 0, .ref ca5, .int 0, .ref ca7, .ref ca8, .ref ca9, .int 0, .ref ca11, .ref ca12, .ref ca13, .ref ca14, .int 0, .ref ca16]))]) [0, 1] rfl
  have hDc := hDb.sub (ws' := [(h0, .inr (8, [.ref t0, .ref m0, .ref c0, .ref x0, .ref f0, .ref w0])), (c0, .inr (0, [.int 0, .int 0, .int (-1), .int 0, .int 0, .ref ca5, .int 0, .ref ca7, .ref ca8, .ref ca9, .int 0, .ref ca11, .ref ca12, .ref ca13, .ref ca14, .int 0, .ref ca16]))]) [0, 1] (by decide) rfl
  have hFc := va_free (wc := [(h0, .inr (8, [.ref t0, .ref m0, .ref c0, .ref x0, .ref f0, .ref w0])), (c0, .inr (0, [.int 0, .int 0, .int (-1), .int 0, .int 0, .ref ca5, .int 0, .ref ca7, .ref ca8, .ref ca9, .int 0, .ref ca11, .ref ca12, .ref ca13, .ref ca14, .int 0, .ref ca16]))]) hD hS hA [0, 1] rfl
  refine vx_calli (vx_runV (As := [.int p0]) (rest := [.int 0, .ref o0]) ⟨hx, hb, hml, hown, hts⟩ (c_X8_to l hl9 dC dI cyI cyZ cyJ base H.size h0 t0 m0 c0 x0 f0 w0 ca5 ca7 ca8 ca9 ca11 ca12 ca13 ca14 ca16 p0) (cwV 1 hts gL_to_X8_to rfl rfl rfl (by decide +kernel) ⟨Nat.le_of_ble_eq_true rfl, Nat.le_of_ble_eq_true rfl⟩) (x_pVX hG hN hK hPc hDc (Nat.le_trans hbz hS.1) (fun q h1 h2 => hS.2.1 q h1 (fun h3 => h2 (hAb q h3))) (ci := 8) (q0 := 0) rfl rfl) rfl rfl hl.1 rfl (lv_room (Nat.le_of_ble_eq_true rfl)) dL_to_4 ⟨Nat.le_of_ble_eq_true rfl, Nat.le_of_ble_eq_true rfl⟩) hS (fun q _ h => hFc q h) hFc (fun q _ h => hFc q h) (fun E ce q9 u t H1 locs ht hvm hpx hE hz1 hk1 hS hce hcv hcl => ?_) (fun r_5 u t H1 locs ht hvm hw hB hz1 hk1 hS => ?_)
  · obtain ⟨hP, hD⟩ := va_join (wr := [(o0, .inl (cyJ, 1, .inr (.inl go)))]) (w1 := []) hP hD [0, 1] [2] rfl rfl (by decide) (by decide) hk1 hFc x_P0 x_D0
    generalize H1 = H at hP hS hce ⊢
    have hP : va_P (dC, dI) vwCl [(o0, .inl (cyJ, 1, .inr (.inl go)))] H := hP
    have hD : va_D A [(o0, .inl (cyJ, 1, .inr (.inl go)))] := hD
    rcases hE with ⟨hk, rfl⟩ | ⟨hk, rfl⟩
    · refine vx_catch (name := "java/lang/IllegalArgumentException") hown [] ⟨0, 9, 12, 13⟩ [⟨0, 9, 15, 15⟩] hTb (fun z hz => by cases hz) (by decide) (by decide) k_1 (hG.2.2.2.1.use rfl) hce hcv hcl ?_
      refine W.widen (k := 1) (n := 6) (Nat.le_of_ble_eq_true rfl) (Nat.le_of_ble_eq_true rfl) ?_
      refine lv_astore_n (lv' := [(3, .ref q9), (0, .ref h0), (1, .int p0), (2, .ref o0)]) hx hb dL_to_12 rfl hl (by decide) rfl (fun ls hl => ?_)
      refine lv_iconst (v := 1) hx hb dL_to_13 (by decide) ?_
      have hP9 := hP.sub (ws' := [(o0, .inl (cyJ, 1, .inr (.inl go)))]) [0] rfl
      have hD9 := hD.sub (ws' := [(o0, .inl (cyJ, 1, .inr (.inl go)))]) [0] (by decide) rfl
      exact W.iret hx hb hr (fun t ht hW => ⟨⟨_, (), rfl, hk.symm, go, by rw [ht]; exact hP9, va_K.moved hW.alike hK, hD9, fun h => absurd (hk.symm.trans h) (by decide)⟩, hS.F ht⟩) hS.2.2 dL_to_14
    · refine vx_catch (name := "java/lang/IllegalStateException") hown [⟨0, 9, 12, 13⟩] ⟨0, 9, 15, 15⟩ [] hTb (fun z hz => Or.inr (by rw [List.mem_singleton.mp hz]; exact ⟨by decide, "java/lang/IllegalArgumentException", k_1, hG.2.2.2.2.2.2.2.2⟩)) (by decide) (by decide) k_2 (hG.2.2.2.2.1.use rfl) hce hcv hcl ?_
      refine W.widen (k := 1) (n := 6) (Nat.le_of_ble_eq_true rfl) (Nat.le_of_ble_eq_true rfl) ?_
      refine lv_astore_n (lv' := [(3, .ref q9), (0, .ref h0), (1, .int p0), (2, .ref o0)]) hx hb dL_to_15 rfl hl (by decide) rfl (fun ls hl => ?_)
      refine lv_iconst (v := 2) hx hb dL_to_16 (by decide) ?_
      have hP9 := hP.sub (ws' := [(o0, .inl (cyJ, 1, .inr (.inl go)))]) [0] rfl
      have hD9 := hD.sub (ws' := [(o0, .inl (cyJ, 1, .inr (.inl go)))]) [0] (by decide) rfl
      exact W.iret hx hb hr (fun t ht hW => ⟨⟨_, (), rfl, hk.symm, go, by rw [ht]; exact hP9, va_K.moved hW.alike hK, hD9, fun h => absurd (hk.symm.trans h) (by decide)⟩, hS.F ht⟩) hS.2.2 dL_to_17
  · obtain ⟨hP, hD⟩ := va_join (wr := [(o0, .inl (cyJ, 1, .inr (.inl go)))]) (w1 := []) hP hD [0, 1] [2] rfl rfl (by decide) (by decide) hk1 hFc x_P0 x_D0
    generalize H1 = H at hP hS ⊢
    have hP : va_P (dC, dI) vwCl [(o0, .inl (cyJ, 1, .inr (.inl go)))] H := hP
    have hD : va_D A [(o0, .inl (cyJ, 1, .inr (.inl go)))] := hD
    refine W.widen (k := 1) (n := 6) (Nat.le_of_ble_eq_true rfl) (Nat.le_of_ble_eq_true rfl) ?_
    refine lv_i2l (v := (Int32.toInt64 r_5)) hx hb dL_to_7 rfl ?_
    refine va_last hx hb hK hP hD hS 0 2 rfl rfl (x_lit _ _ (by decide)) dL_to_8 (fun H locs hP hD hS => ?_)
    have hP : va_P (dC, dI) vwCl [(o0, .inl (cyJ, 1, .inr (.inl (vp_updL go (Int32.toNatClampNeg 0) (Int32.toInt64 r_5)))))] H := hP
    have hD : va_D A [(o0, .inl (cyJ, 1, .inr (.inl (vp_updL go (Int32.toNatClampNeg 0) (Int32.toInt64 r_5)))))] := hD
    refine lv_goto (tgt := 18) hx hb dL_to_9 (by decide) ?_
    refine lv_iconst (v := 0) hx hb dL_to_18 (by decide) ?_
    have hP9 := hP.sub (ws' := [(o0, .inl (cyJ, 1, .inr (.inl (vp_updL go (Int32.toNatClampNeg 0) (Int32.toInt64 r_5)))))]) [0] rfl
    have hD9 := hD.sub (ws' := [(o0, .inl (cyJ, 1, .inr (.inl (vp_updL go (Int32.toNatClampNeg 0) (Int32.toInt64 r_5)))))]) [0] (by decide) rfl
    exact W.iret hx hb hr (fun t ht hW => ⟨⟨_, (), rfl, by rw [hw], (vp_updL go (Int32.toNatClampNeg 0) (Int32.toInt64 r_5)), by rw [ht]; exact hP9, va_K.moved hW.alike hK, hD9, fun _ => by rw [hw]; exact x_out⟩, hS.F ht⟩) hS.2.2 dL_to_19

set_option maxHeartbeats 4000000 in
set_option maxRecDepth 100000 in
theorem c_L_row (l : Launch) (hl9 : l.stackTraces = false) (dC : Nat → ClassId) (dI : Nat → Nat → Nat) (cyI cyZ cyJ : ClassId) (base : Nat) (sz : Nat) (h0 : Nat) (t0 : Nat) (m0 : Nat) (c0 : Nat) (x0 : Nat) (f0 : Nat) (w0 : Nat) (th1 : Nat) (th2 : Nat) (ca5 : Nat) (ca7 : Nat) (ca8 : Nat) (ca9 : Nat) (ca11 : Nat) (ca12 : Nat) (ca13 : Nat) (ca14 : Nat) (ca16 : Nat) (g14 : Nat → Int32) (p0 : Int32) (p1 : Int32) (p2 : Int32) (p3 : Int32) (o0 : Nat) (go : Nat → Int64) : Met l yL_row wsL_row ({ frames := 7, cells := 1, slots := 6, locals := 114 }) (va_Pc [.ref h0, .int p0, .int p1, .int p2, .int p3, .ref o0] (x_PreX (dC, dI) (x_T cyI cyZ cyJ) [(h0, .inr (8, [.ref t0, .ref m0, .ref c0, .ref x0, .ref f0, .ref w0])), (t0, .inr (7, [.ref th1, .ref th2, .int 4])), (c0, .inr (0, [.int 0, .int 0, .int (-1), .int 0, .int 0, .ref ca5, .int 0, .ref ca7, .ref ca8, .ref ca9, .int 0, .ref ca11, .ref ca12, .ref ca13, .ref ca14, .int 0, .ref ca16])), (ca14, .inl (cyI, 200, .inl g14)), (o0, .inl (cyJ, 1, .inr (.inl go)))] base sz)) (va_Qi (fun (r : Int32) (_ : Unit) => r = (f_X8_row p0 p1 p2 p3).1) (fun (_ : Unit) (t : State) => ∃ u : Nat → Int64, va_P (dC, dI) vwCl [(o0, .inl (cyJ, 1, .inr (.inl u)))] t.heap ∧ va_K (dC, dI) vwCl (x_T cyI cyZ cyJ) t ∧ va_D (va_A [(h0, .inr (8, [.ref t0, .ref m0, .ref c0, .ref x0, .ref f0, .ref w0])), (t0, .inr (7, [.ref th1, .ref th2, .int 4])), (c0, .inr (0, [.int 0, .int 0, .int (-1), .int 0, .int 0, .ref ca5, .int 0, .ref ca7, .ref ca8, .ref ca9, .int 0, .ref ca11, .ref ca12, .ref ca13, .ref ca14, .int 0, .ref ca16])), (ca14, .inl (cyI, 200, .inl g14)), (o0, .inl (cyJ, 1, .inr (.inl go)))] sz) [(o0, .inl (cyJ, 1, .inr (.inl u)))] ∧ ((f_X8_row p0 p1 p2 p3).1 = 0 → u 0 = Int32.toInt64 (f_X8_row p0 p1 p2 p3).2)) (va_A [(h0, .inr (8, [.ref t0, .ref m0, .ref c0, .ref x0, .ref f0, .ref w0])), (t0, .inr (7, [.ref th1, .ref th2, .int 4])), (c0, .inr (0, [.int 0, .int 0, .int (-1), .int 0, .int 0, .ref ca5, .int 0, .ref ca7, .ref ca8, .ref ca9, .int 0, .ref ca11, .ref ca12, .ref ca13, .ref ca14, .int 0, .ref ca16])), (ca14, .inl (cyI, 200, .inl g14)), (o0, .inl (cyJ, 1, .inr (.inl go)))] sz)) 1 6 (va_A [(h0, .inr (8, [.ref t0, .ref m0, .ref c0, .ref x0, .ref f0, .ref w0])), (t0, .inr (7, [.ref th1, .ref th2, .int 4])), (c0, .inr (0, [.int 0, .int 0, .int (-1), .int 0, .int 0, .ref ca5, .int 0, .ref ca7, .ref ca8, .ref ca9, .int 0, .ref ca11, .ref ca12, .ref ca13, .ref ca14, .int 0, .ref ca16])), (ca14, .inl (cyI, 200, .inl g14)), (o0, .inl (cyJ, 1, .inr (.inl go)))] sz) := by
  refine va_MetW (cc := cL_row) (maxL := 7) (ret := (some .int)) (hh := [(0, 14, 17, 13), (0, 14, 21, 15)]) (by decide) rfl ?_
  intro p e s m args below meth c s₁ B hml hv
  obtain ⟨rfl, ⟨⟨hsz, hP, hK, hN⟩, hD0⟩, hDb, hbz, hG⟩ := hv
  have hx := B.exec
  have hb := B.bytes
  have hr := B.returns
  have hts := atoms_spec (ws := wsL_row) B.pre
  have hown : s.vm.findClass RL = some m.cls := findClass_of_methodNamed B.named
  have hlocks := B.notSynchronized
  have hTb : c.exceptionTable.toList = [⟨0, 14, 17, 13⟩, ⟨0, 14, 21, 15⟩] := vx_table (x := yL_row) B (hts _ List.mem_cons_self)
  have k_1 := hts (.classLink RL 13 "java/lang/IllegalArgumentException") (by decide +kernel)
  have k_2 := hts (.classLink RL 15 "java/lang/IllegalStateException") (by decide +kernel)
  subst hsz
  have hAb : ∀ q, va_A [(h0, .inr (8, [.ref t0, .ref m0, .ref c0, .ref x0, .ref f0, .ref w0])), (t0, .inr (7, [.ref th1, .ref th2, .int 4])), (c0, .inr (0, [.int 0, .int 0, .int (-1), .int 0, .int 0, .ref ca5, .int 0, .ref ca7, .ref ca8, .ref ca9, .int 0, .ref ca11, .ref ca12, .ref ca13, .ref ca14, .int 0, .ref ca16])), (ca14, .inl (cyI, 200, .inl g14)), (o0, .inl (cyJ, 1, .inr (.inl go)))] s.heap.size q → x_new base q := x_Ab hDb hbz
  have hD := hD0.self (sz := s.heap.size)
  generalize hAe : va_A [(h0, .inr (8, [.ref t0, .ref m0, .ref c0, .ref x0, .ref f0, .ref w0])), (t0, .inr (7, [.ref th1, .ref th2, .int 4])), (c0, .inr (0, [.int 0, .int 0, .int (-1), .int 0, .int 0, .ref ca5, .int 0, .ref ca7, .ref ca8, .ref ca9, .int 0, .ref ca11, .ref ca12, .ref ca13, .ref ca14, .int 0, .ref ca16])), (ca14, .inl (cyI, 200, .inl g14)), (o0, .inl (cyJ, 1, .inr (.inl go)))] s.heap.size = A at hD hAb ⊢
  have hA : ∀ q : Nat, s.heap.size ≤ q → A q := fun q h => by rw [← hAe]; exact Or.inr h
  have hl := lv_entry ([.ref h0, .int p0, .int p1, .int p2, .int p3, .ref o0]) (n := 7) (Nat.le_of_ble_eq_true rfl)
  rw [lg_entry_eq]
  generalize (lg_sl ([.ref h0, .int p0, .int p1, .int p2, .int p3, .ref o0]) ++ List.replicate (7 - (lg_sl ([.ref h0, .int p0, .int p1, .int p2, .int p3, .ref o0])).length) Slot.unset).toArray = ls at hl ⊢
  have hl : lv_has ls 7 [(0, .ref h0), (1, .int p0), (2, .int p1), (3, .int p2), (4, .int p3), (5, .ref o0)] := hl
  obtain ⟨H, hH⟩ : ∃ z, z = s.heap := ⟨_, rfl⟩
  refine x_here hH ?_
  have hP : va_P (dC, dI) vwCl [(h0, .inr (8, [.ref t0, .ref m0, .ref c0, .ref x0, .ref f0, .ref w0])), (t0, .inr (7, [.ref th1, .ref th2, .int 4])), (c0, .inr (0, [.int 0, .int 0, .int (-1), .int 0, .int 0, .ref ca5, .int 0, .ref ca7, .ref ca8, .ref ca9, .int 0, .ref ca11, .ref ca12, .ref ca13, .ref ca14, .int 0, .ref ca16])), (ca14, .inl (cyI, 200, .inl g14)), (o0, .inl (cyJ, 1, .inr (.inl go)))] H := by rw [hH]; exact hP
  have hS : va_S A s.heap H [] := by rw [hH]; exact va_S.rf
  clear hH
  refine lv_aload hx hb dL_row_0 (lv_at hl 5 rfl) ?_
  refine lv_iconst (v := 0) hx hb dL_row_2 (by decide) ?_
  refine lv_aload_n hx hb dL_row_3 rfl (lv_at hl 0 rfl) ?_
  refine lv_iload_n hx hb dL_row_4 rfl (lv_at hl 1 rfl) ?_
  refine lv_iload_n hx hb dL_row_5 rfl (lv_at hl 2 rfl) ?_
  refine lv_iload_n hx hb dL_row_6 rfl (lv_at hl 3 rfl) ?_
  refine lv_iload hx hb dL_row_7 (lv_at hl 4 rfl) ?_
  have hPc := hP.sub (ws' := [(h0, .inr (8, [.ref t0, .ref m0, .ref c0, .ref x0, .ref f0, .ref w0])), (t0, .inr (7, [.ref th1, .ref th2, .int 4])), (c0, .inr (0, [.int 0, .int 0, .int (-1), .int 0, .int 0, .ref ca5, .int 0, .ref ca7, .ref ca8, .ref ca9, .int 0, .ref ca11, .ref ca12, .ref ca13, .ref ca14, .int 0, .ref ca16])), (ca14, .inl (cyI, 200, .inl g14))]) [0, 1, 2, 3] rfl
  have hDc := hDb.sub (ws' := [(h0, .inr (8, [.ref t0, .ref m0, .ref c0, .ref x0, .ref f0, .ref w0])), (t0, .inr (7, [.ref th1, .ref th2, .int 4])), (c0, .inr (0, [.int 0, .int 0, .int (-1), .int 0, .int 0, .ref ca5, .int 0, .ref ca7, .ref ca8, .ref ca9, .int 0, .ref ca11, .ref ca12, .ref ca13, .ref ca14, .int 0, .ref ca16])), (ca14, .inl (cyI, 200, .inl g14))]) [0, 1, 2, 3] (by decide) rfl
  have hFc := va_free (wc := [(h0, .inr (8, [.ref t0, .ref m0, .ref c0, .ref x0, .ref f0, .ref w0])), (t0, .inr (7, [.ref th1, .ref th2, .int 4])), (c0, .inr (0, [.int 0, .int 0, .int (-1), .int 0, .int 0, .ref ca5, .int 0, .ref ca7, .ref ca8, .ref ca9, .int 0, .ref ca11, .ref ca12, .ref ca13, .ref ca14, .int 0, .ref ca16])), (ca14, .inl (cyI, 200, .inl g14))]) hD hS hA [0, 1, 2, 3] rfl
  refine vx_calli (vx_runV (As := [.int p0, .int p1, .int p2, .int p3]) (rest := [.int 0, .ref o0]) ⟨hx, hb, hml, hown, hts⟩ (c_X8_row l hl9 dC dI cyI cyZ cyJ base H.size h0 t0 m0 c0 x0 f0 w0 th1 th2 ca5 ca7 ca8 ca9 ca11 ca12 ca13 ca14 ca16 g14 p0 p1 p2 p3) (cwV 4 hts gL_row_X8_row rfl rfl rfl (by decide +kernel) ⟨Nat.le_of_ble_eq_true rfl, Nat.le_of_ble_eq_true rfl⟩) (x_pVX hG hN hK hPc hDc (Nat.le_trans hbz hS.1) (fun q h1 h2 => hS.2.1 q h1 (fun h3 => h2 (hAb q h3))) (ci := 8) (q0 := 0) rfl rfl) rfl rfl hl.1 rfl (lv_room (Nat.le_of_ble_eq_true rfl)) dL_row_9 ⟨Nat.le_of_ble_eq_true rfl, Nat.le_of_ble_eq_true rfl⟩) hS (fun q _ h => hFc q h) hFc (fun q _ h => hFc q h) (fun E ce q9 u t H1 locs ht hvm hpx hE hz1 hk1 hS hce hcv hcl => ?_) (fun r_5 u t H1 locs ht hvm hw hB hz1 hk1 hS => ?_)
  · obtain ⟨hP, hD⟩ := va_join (wr := [(o0, .inl (cyJ, 1, .inr (.inl go)))]) (w1 := []) hP hD [0, 1, 2, 3] [4] rfl rfl (by decide) (by decide) hk1 hFc x_P0 x_D0
    generalize H1 = H at hP hS hce ⊢
    have hP : va_P (dC, dI) vwCl [(o0, .inl (cyJ, 1, .inr (.inl go)))] H := hP
    have hD : va_D A [(o0, .inl (cyJ, 1, .inr (.inl go)))] := hD
    rcases hE with ⟨hk, rfl⟩ | ⟨hk, rfl⟩
    · refine vx_catch (name := "java/lang/IllegalArgumentException") hown [] ⟨0, 14, 17, 13⟩ [⟨0, 14, 21, 15⟩] hTb (fun z hz => by cases hz) (by decide) (by decide) k_1 (hG.2.2.2.1.use rfl) hce hcv hcl ?_
      refine W.widen (k := 1) (n := 6) (Nat.le_of_ble_eq_true rfl) (Nat.le_of_ble_eq_true rfl) ?_
      refine lv_astore (lv' := [(6, .ref q9), (0, .ref h0), (1, .int p0), (2, .int p1), (3, .int p2), (4, .int p3), (5, .ref o0)]) hx hb dL_row_17 hl (by decide) rfl (fun ls hl => ?_)
      refine lv_iconst (v := 1) hx hb dL_row_19 (by decide) ?_
      have hP9 := hP.sub (ws' := [(o0, .inl (cyJ, 1, .inr (.inl go)))]) [0] rfl
      have hD9 := hD.sub (ws' := [(o0, .inl (cyJ, 1, .inr (.inl go)))]) [0] (by decide) rfl
      exact W.iret hx hb hr (fun t ht hW => ⟨⟨_, (), rfl, hk.symm, go, by rw [ht]; exact hP9, va_K.moved hW.alike hK, hD9, fun h => absurd (hk.symm.trans h) (by decide)⟩, hS.F ht⟩) hS.2.2 dL_row_20
    · refine vx_catch (name := "java/lang/IllegalStateException") hown [⟨0, 14, 17, 13⟩] ⟨0, 14, 21, 15⟩ [] hTb (fun z hz => Or.inr (by rw [List.mem_singleton.mp hz]; exact ⟨by decide, "java/lang/IllegalArgumentException", k_1, hG.2.2.2.2.2.2.2.2⟩)) (by decide) (by decide) k_2 (hG.2.2.2.2.1.use rfl) hce hcv hcl ?_
      refine W.widen (k := 1) (n := 6) (Nat.le_of_ble_eq_true rfl) (Nat.le_of_ble_eq_true rfl) ?_
      refine lv_astore (lv' := [(6, .ref q9), (0, .ref h0), (1, .int p0), (2, .int p1), (3, .int p2), (4, .int p3), (5, .ref o0)]) hx hb dL_row_21 hl (by decide) rfl (fun ls hl => ?_)
      refine lv_iconst (v := 2) hx hb dL_row_23 (by decide) ?_
      have hP9 := hP.sub (ws' := [(o0, .inl (cyJ, 1, .inr (.inl go)))]) [0] rfl
      have hD9 := hD.sub (ws' := [(o0, .inl (cyJ, 1, .inr (.inl go)))]) [0] (by decide) rfl
      exact W.iret hx hb hr (fun t ht hW => ⟨⟨_, (), rfl, hk.symm, go, by rw [ht]; exact hP9, va_K.moved hW.alike hK, hD9, fun h => absurd (hk.symm.trans h) (by decide)⟩, hS.F ht⟩) hS.2.2 dL_row_24
  · obtain ⟨hP, hD⟩ := va_join (wr := [(o0, .inl (cyJ, 1, .inr (.inl go)))]) (w1 := []) hP hD [0, 1, 2, 3] [4] rfl rfl (by decide) (by decide) hk1 hFc x_P0 x_D0
    generalize H1 = H at hP hS ⊢
    have hP : va_P (dC, dI) vwCl [(o0, .inl (cyJ, 1, .inr (.inl go)))] H := hP
    have hD : va_D A [(o0, .inl (cyJ, 1, .inr (.inl go)))] := hD
    refine W.widen (k := 1) (n := 6) (Nat.le_of_ble_eq_true rfl) (Nat.le_of_ble_eq_true rfl) ?_
    refine lv_i2l (v := (Int32.toInt64 r_5)) hx hb dL_row_12 rfl ?_
    refine va_last hx hb hK hP hD hS 0 2 rfl rfl (x_lit _ _ (by decide)) dL_row_13 (fun H locs hP hD hS => ?_)
    have hP : va_P (dC, dI) vwCl [(o0, .inl (cyJ, 1, .inr (.inl (vp_updL go (Int32.toNatClampNeg 0) (Int32.toInt64 r_5)))))] H := hP
    have hD : va_D A [(o0, .inl (cyJ, 1, .inr (.inl (vp_updL go (Int32.toNatClampNeg 0) (Int32.toInt64 r_5)))))] := hD
    refine lv_goto (tgt := 25) hx hb dL_row_14 (by decide) ?_
    refine lv_iconst (v := 0) hx hb dL_row_25 (by decide) ?_
    have hP9 := hP.sub (ws' := [(o0, .inl (cyJ, 1, .inr (.inl (vp_updL go (Int32.toNatClampNeg 0) (Int32.toInt64 r_5)))))]) [0] rfl
    have hD9 := hD.sub (ws' := [(o0, .inl (cyJ, 1, .inr (.inl (vp_updL go (Int32.toNatClampNeg 0) (Int32.toInt64 r_5)))))]) [0] (by decide) rfl
    exact W.iret hx hb hr (fun t ht hW => ⟨⟨_, (), rfl, by rw [hw], (vp_updL go (Int32.toNatClampNeg 0) (Int32.toInt64 r_5)), by rw [ht]; exact hP9, va_K.moved hW.alike hK, hD9, fun _ => by rw [hw]; exact x_out⟩, hS.F ht⟩) hS.2.2 dL_row_26

theorem n2_X8_frame (p0 : Int32) (p1 : Int32) : ¬ (f_X8_frame p0 p1).1 = 2 := (x_ite2 (x_leaf (by decide)) (x_ite2 (x_leaf (by decide)) (x_leaf (by decide))))
set_option maxHeartbeats 4000000 in
set_option maxRecDepth 100000 in
theorem c_L_frame (l : Launch) (hl9 : l.stackTraces = false) (dC : Nat → ClassId) (dI : Nat → Nat → Nat) (cyI cyZ cyJ : ClassId) (base : Nat) (sz : Nat) (h0 : Nat) (t0 : Nat) (m0 : Nat) (c0 : Nat) (x0 : Nat) (f0 : Nat) (w0 : Nat) (fa5 : Nat) (fa6 : Nat) (fa7 : Nat) (fa8 : Nat) (fa9 : Nat) (fa10 : Nat) (fa11 : Nat) (fa12 : Nat) (fa15 : Nat) (fa16 : Nat) (p0 : Int32) (p1 : Int32) (o0 : Nat) (go : Nat → Int64) : Met l yL_frame wsL_frame ({ frames := 7, cells := 1, slots := 6, locals := 112 }) (va_Pc [.ref h0, .int p0, .int p1, .ref o0] (x_PreX (dC, dI) (x_T cyI cyZ cyJ) [(h0, .inr (8, [.ref t0, .ref m0, .ref c0, .ref x0, .ref f0, .ref w0])), (f0, .inr (3, [.ref t0, .ref x0, .int 0, .int 0, .int 0, .ref fa5, .ref fa6, .ref fa7, .ref fa8, .ref fa9, .ref fa10, .ref fa11, .ref fa12, .int (-1), .int (-1), .ref fa15, .ref fa16])), (o0, .inl (cyJ, 1, .inr (.inl go)))] base sz)) (va_Qi (fun (r : Int32) (_ : Unit) => r = (f_X8_frame p0 p1).1) (fun (_ : Unit) (t : State) => ∃ u : Nat → Int64, va_P (dC, dI) vwCl [(o0, .inl (cyJ, 1, .inr (.inl u)))] t.heap ∧ va_K (dC, dI) vwCl (x_T cyI cyZ cyJ) t ∧ va_D (va_A [(h0, .inr (8, [.ref t0, .ref m0, .ref c0, .ref x0, .ref f0, .ref w0])), (f0, .inr (3, [.ref t0, .ref x0, .int 0, .int 0, .int 0, .ref fa5, .ref fa6, .ref fa7, .ref fa8, .ref fa9, .ref fa10, .ref fa11, .ref fa12, .int (-1), .int (-1), .ref fa15, .ref fa16])), (o0, .inl (cyJ, 1, .inr (.inl go)))] sz) [(o0, .inl (cyJ, 1, .inr (.inl u)))] ∧ ((f_X8_frame p0 p1).1 = 0 → u 0 = Int32.toInt64 (f_X8_frame p0 p1).2)) (va_A [(h0, .inr (8, [.ref t0, .ref m0, .ref c0, .ref x0, .ref f0, .ref w0])), (f0, .inr (3, [.ref t0, .ref x0, .int 0, .int 0, .int 0, .ref fa5, .ref fa6, .ref fa7, .ref fa8, .ref fa9, .ref fa10, .ref fa11, .ref fa12, .int (-1), .int (-1), .ref fa15, .ref fa16])), (o0, .inl (cyJ, 1, .inr (.inl go)))] sz)) 1 6 (va_A [(h0, .inr (8, [.ref t0, .ref m0, .ref c0, .ref x0, .ref f0, .ref w0])), (f0, .inr (3, [.ref t0, .ref x0, .int 0, .int 0, .int 0, .ref fa5, .ref fa6, .ref fa7, .ref fa8, .ref fa9, .ref fa10, .ref fa11, .ref fa12, .int (-1), .int (-1), .ref fa15, .ref fa16])), (o0, .inl (cyJ, 1, .inr (.inl go)))] sz) := by
  refine va_MetW (cc := cL_frame) (maxL := 5) (ret := (some .int)) (hh := [(0, 10, 13, 13)]) (by decide) rfl ?_
  intro p e s m args below meth c s₁ B hml hv
  obtain ⟨rfl, ⟨⟨hsz, hP, hK, hN⟩, hD0⟩, hDb, hbz, hG⟩ := hv
  have hx := B.exec
  have hb := B.bytes
  have hr := B.returns
  have hts := atoms_spec (ws := wsL_frame) B.pre
  have hown : s.vm.findClass RL = some m.cls := findClass_of_methodNamed B.named
  have hlocks := B.notSynchronized
  have hTb : c.exceptionTable.toList = [⟨0, 10, 13, 13⟩] := vx_table (x := yL_frame) B (hts _ List.mem_cons_self)
  have k_1 := hts (.classLink RL 13 "java/lang/IllegalArgumentException") (by decide +kernel)
  subst hsz
  have hAb : ∀ q, va_A [(h0, .inr (8, [.ref t0, .ref m0, .ref c0, .ref x0, .ref f0, .ref w0])), (f0, .inr (3, [.ref t0, .ref x0, .int 0, .int 0, .int 0, .ref fa5, .ref fa6, .ref fa7, .ref fa8, .ref fa9, .ref fa10, .ref fa11, .ref fa12, .int (-1), .int (-1), .ref fa15, .ref fa16])), (o0, .inl (cyJ, 1, .inr (.inl go)))] s.heap.size q → x_new base q := x_Ab hDb hbz
  have hD := hD0.self (sz := s.heap.size)
  generalize hAe : va_A [(h0, .inr (8, [.ref t0, .ref m0, .ref c0, .ref x0, .ref f0, .ref w0])), (f0, .inr (3, [.ref t0, .ref x0, .int 0, .int 0, .int 0, .ref fa5, .ref fa6, .ref fa7, .ref fa8, .ref fa9, .ref fa10, .ref fa11, .ref fa12, .int (-1), .int (-1), .ref fa15, .ref fa16])), (o0, .inl (cyJ, 1, .inr (.inl go)))] s.heap.size = A at hD hAb ⊢
  have hA : ∀ q : Nat, s.heap.size ≤ q → A q := fun q h => by rw [← hAe]; exact Or.inr h
  have hl := lv_entry ([.ref h0, .int p0, .int p1, .ref o0]) (n := 5) (Nat.le_of_ble_eq_true rfl)
  rw [lg_entry_eq]
  generalize (lg_sl ([.ref h0, .int p0, .int p1, .ref o0]) ++ List.replicate (5 - (lg_sl ([.ref h0, .int p0, .int p1, .ref o0])).length) Slot.unset).toArray = ls at hl ⊢
  have hl : lv_has ls 5 [(0, .ref h0), (1, .int p0), (2, .int p1), (3, .ref o0)] := hl
  obtain ⟨H, hH⟩ : ∃ z, z = s.heap := ⟨_, rfl⟩
  refine x_here hH ?_
  have hP : va_P (dC, dI) vwCl [(h0, .inr (8, [.ref t0, .ref m0, .ref c0, .ref x0, .ref f0, .ref w0])), (f0, .inr (3, [.ref t0, .ref x0, .int 0, .int 0, .int 0, .ref fa5, .ref fa6, .ref fa7, .ref fa8, .ref fa9, .ref fa10, .ref fa11, .ref fa12, .int (-1), .int (-1), .ref fa15, .ref fa16])), (o0, .inl (cyJ, 1, .inr (.inl go)))] H := by rw [hH]; exact hP
  have hS : va_S A s.heap H [] := by rw [hH]; exact va_S.rf
  clear hH
  refine lv_aload_n hx hb dL_frame_0 rfl (lv_at hl 3 rfl) ?_
  refine lv_iconst (v := 0) hx hb dL_frame_1 (by decide) ?_
  refine lv_aload_n hx hb dL_frame_2 rfl (lv_at hl 0 rfl) ?_
  refine lv_iload_n hx hb dL_frame_3 rfl (lv_at hl 1 rfl) ?_
  refine lv_iload_n hx hb dL_frame_4 rfl (lv_at hl 2 rfl) ?_
  have hPc := hP.sub (ws' := [(h0, .inr (8, [.ref t0, .ref m0, .ref c0, .ref x0, .ref f0, .ref w0])), (f0, .inr (3, [.ref t0, .ref x0, .int 0, .int 0, .int 0, .ref fa5, .ref fa6, .ref fa7, .ref fa8, .ref fa9, .ref fa10, .ref fa11, .ref fa12, .int (-1), .int (-1), .ref fa15, .ref fa16]))]) [0, 1] rfl
  have hDc := hDb.sub (ws' := [(h0, .inr (8, [.ref t0, .ref m0, .ref c0, .ref x0, .ref f0, .ref w0])), (f0, .inr (3, [.ref t0, .ref x0, .int 0, .int 0, .int 0, .ref fa5, .ref fa6, .ref fa7, .ref fa8, .ref fa9, .ref fa10, .ref fa11, .ref fa12, .int (-1), .int (-1), .ref fa15, .ref fa16]))]) [0, 1] (by decide) rfl
  have hFc := va_free (wc := [(h0, .inr (8, [.ref t0, .ref m0, .ref c0, .ref x0, .ref f0, .ref w0])), (f0, .inr (3, [.ref t0, .ref x0, .int 0, .int 0, .int 0, .ref fa5, .ref fa6, .ref fa7, .ref fa8, .ref fa9, .ref fa10, .ref fa11, .ref fa12, .int (-1), .int (-1), .ref fa15, .ref fa16]))]) hD hS hA [0, 1] rfl
  refine vx_calli (vx_runV (As := [.int p0, .int p1]) (rest := [.int 0, .ref o0]) ⟨hx, hb, hml, hown, hts⟩ (c_X8_frame l hl9 dC dI cyI cyZ cyJ base H.size h0 t0 m0 c0 x0 f0 w0 fa5 fa6 fa7 fa8 fa9 fa10 fa11 fa12 fa15 fa16 p0 p1) (cwV 2 hts gL_frame_X8_frame rfl rfl rfl (by decide +kernel) ⟨Nat.le_of_ble_eq_true rfl, Nat.le_of_ble_eq_true rfl⟩) (x_pVX hG hN hK hPc hDc (Nat.le_trans hbz hS.1) (fun q h1 h2 => hS.2.1 q h1 (fun h3 => h2 (hAb q h3))) (ci := 8) (q0 := 0) rfl rfl) rfl rfl hl.1 rfl (lv_room (Nat.le_of_ble_eq_true rfl)) dL_frame_5 ⟨Nat.le_of_ble_eq_true rfl, Nat.le_of_ble_eq_true rfl⟩) hS (fun q _ h => hFc q h) hFc (fun q _ h => hFc q h) (fun E ce q9 u t H1 locs ht hvm hpx hE hz1 hk1 hS hce hcv hcl => ?_) (fun r_5 u t H1 locs ht hvm hw hB hz1 hk1 hS => ?_)
  · obtain ⟨hP, hD⟩ := va_join (wr := [(o0, .inl (cyJ, 1, .inr (.inl go)))]) (w1 := []) hP hD [0, 1] [2] rfl rfl (by decide) (by decide) hk1 hFc x_P0 x_D0
    generalize H1 = H at hP hS hce ⊢
    have hP : va_P (dC, dI) vwCl [(o0, .inl (cyJ, 1, .inr (.inl go)))] H := hP
    have hD : va_D A [(o0, .inl (cyJ, 1, .inr (.inl go)))] := hD
    rcases hE with ⟨hk, rfl⟩ | ⟨hk, rfl⟩
    · refine vx_catch (name := "java/lang/IllegalArgumentException") hown [] ⟨0, 10, 13, 13⟩ [] hTb (fun z hz => by cases hz) (by decide) (by decide) k_1 (hG.2.2.2.1.use rfl) hce hcv hcl ?_
      refine W.widen (k := 1) (n := 6) (Nat.le_of_ble_eq_true rfl) (Nat.le_of_ble_eq_true rfl) ?_
      refine lv_astore (lv' := [(4, .ref q9), (0, .ref h0), (1, .int p0), (2, .int p1), (3, .ref o0)]) hx hb dL_frame_13 hl (by decide) rfl (fun ls hl => ?_)
      refine lv_iconst (v := 1) hx hb dL_frame_15 (by decide) ?_
      have hP9 := hP.sub (ws' := [(o0, .inl (cyJ, 1, .inr (.inl go)))]) [0] rfl
      have hD9 := hD.sub (ws' := [(o0, .inl (cyJ, 1, .inr (.inl go)))]) [0] (by decide) rfl
      exact W.iret hx hb hr (fun t ht hW => ⟨⟨_, (), rfl, hk.symm, go, by rw [ht]; exact hP9, va_K.moved hW.alike hK, hD9, fun h => absurd (hk.symm.trans h) (by decide)⟩, hS.F ht⟩) hS.2.2 dL_frame_16
    · exact absurd hk (n2_X8_frame p0 p1)
  · obtain ⟨hP, hD⟩ := va_join (wr := [(o0, .inl (cyJ, 1, .inr (.inl go)))]) (w1 := []) hP hD [0, 1] [2] rfl rfl (by decide) (by decide) hk1 hFc x_P0 x_D0
    generalize H1 = H at hP hS ⊢
    have hP : va_P (dC, dI) vwCl [(o0, .inl (cyJ, 1, .inr (.inl go)))] H := hP
    have hD : va_D A [(o0, .inl (cyJ, 1, .inr (.inl go)))] := hD
    refine W.widen (k := 1) (n := 6) (Nat.le_of_ble_eq_true rfl) (Nat.le_of_ble_eq_true rfl) ?_
    refine lv_i2l (v := (Int32.toInt64 r_5)) hx hb dL_frame_8 rfl ?_
    refine va_last hx hb hK hP hD hS 0 2 rfl rfl (x_lit _ _ (by decide)) dL_frame_9 (fun H locs hP hD hS => ?_)
    have hP : va_P (dC, dI) vwCl [(o0, .inl (cyJ, 1, .inr (.inl (vp_updL go (Int32.toNatClampNeg 0) (Int32.toInt64 r_5)))))] H := hP
    have hD : va_D A [(o0, .inl (cyJ, 1, .inr (.inl (vp_updL go (Int32.toNatClampNeg 0) (Int32.toInt64 r_5)))))] := hD
    refine lv_goto (tgt := 17) hx hb dL_frame_10 (by decide) ?_
    refine lv_iconst (v := 0) hx hb dL_frame_17 (by decide) ?_
    have hP9 := hP.sub (ws' := [(o0, .inl (cyJ, 1, .inr (.inl (vp_updL go (Int32.toNatClampNeg 0) (Int32.toInt64 r_5)))))]) [0] rfl
    have hD9 := hD.sub (ws' := [(o0, .inl (cyJ, 1, .inr (.inl (vp_updL go (Int32.toNatClampNeg 0) (Int32.toInt64 r_5)))))]) [0] (by decide) rfl
    exact W.iret hx hb hr (fun t ht hW => ⟨⟨_, (), rfl, by rw [hw], (vp_updL go (Int32.toNatClampNeg 0) (Int32.toInt64 r_5)), by rw [ht]; exact hP9, va_K.moved hW.alike hK, hD9, fun _ => by rw [hw]; exact x_out⟩, hS.F ht⟩) hS.2.2 dL_frame_18

theorem n2_X8_stands (p0 : Int32) (p1 : Int32) : ¬ (f_X8_stands p0 p1).1 = 2 := (x_ite2 (x_leaf (by decide)) (x_ite2 (x_leaf (by decide)) (x_leaf (by decide))))
set_option maxHeartbeats 4000000 in
set_option maxRecDepth 100000 in
theorem c_L_stands (l : Launch) (hl9 : l.stackTraces = false) (dC : Nat → ClassId) (dI : Nat → Nat → Nat) (cyI cyZ cyJ : ClassId) (base : Nat) (sz : Nat) (h0 : Nat) (t0 : Nat) (m0 : Nat) (c0 : Nat) (x0 : Nat) (f0 : Nat) (w0 : Nat) (th1 : Nat) (th2 : Nat) (p0 : Int32) (p1 : Int32) (o0 : Nat) (go : Nat → Int64) : Met l yL_stands wsL_stands ({ frames := 7, cells := 1, slots := 6, locals := 112 }) (va_Pc [.ref h0, .int p0, .int p1, .ref o0] (x_PreX (dC, dI) (x_T cyI cyZ cyJ) [(h0, .inr (8, [.ref t0, .ref m0, .ref c0, .ref x0, .ref f0, .ref w0])), (t0, .inr (7, [.ref th1, .ref th2, .int 4])), (th1, .inl (cyI, 200, .inl x_z0)), (th2, .inl (cyZ, 200, .inl x_face)), (o0, .inl (cyJ, 1, .inr (.inl go)))] base sz)) (va_Qi (fun (r : Int32) (_ : Unit) => r = (f_X8_stands p0 p1).1) (fun (_ : Unit) (t : State) => ∃ u : Nat → Int64, va_P (dC, dI) vwCl [(o0, .inl (cyJ, 1, .inr (.inl u)))] t.heap ∧ va_K (dC, dI) vwCl (x_T cyI cyZ cyJ) t ∧ va_D (va_A [(h0, .inr (8, [.ref t0, .ref m0, .ref c0, .ref x0, .ref f0, .ref w0])), (t0, .inr (7, [.ref th1, .ref th2, .int 4])), (th1, .inl (cyI, 200, .inl x_z0)), (th2, .inl (cyZ, 200, .inl x_face)), (o0, .inl (cyJ, 1, .inr (.inl go)))] sz) [(o0, .inl (cyJ, 1, .inr (.inl u)))] ∧ ((f_X8_stands p0 p1).1 = 0 → u 0 = (if (f_X8_stands p0 p1).2 = 0 then (0 : Int64) else 1))) (va_A [(h0, .inr (8, [.ref t0, .ref m0, .ref c0, .ref x0, .ref f0, .ref w0])), (t0, .inr (7, [.ref th1, .ref th2, .int 4])), (th1, .inl (cyI, 200, .inl x_z0)), (th2, .inl (cyZ, 200, .inl x_face)), (o0, .inl (cyJ, 1, .inr (.inl go)))] sz)) 1 6 (va_A [(h0, .inr (8, [.ref t0, .ref m0, .ref c0, .ref x0, .ref f0, .ref w0])), (t0, .inr (7, [.ref th1, .ref th2, .int 4])), (th1, .inl (cyI, 200, .inl x_z0)), (th2, .inl (cyZ, 200, .inl x_face)), (o0, .inl (cyJ, 1, .inr (.inl go)))] sz) := by
  refine va_MetW (cc := cL_stands) (maxL := 5) (ret := (some .int)) (hh := [(0, 17, 20, 13)]) (by decide) rfl ?_
  intro p e s m args below meth c s₁ B hml hv
  obtain ⟨rfl, ⟨⟨hsz, hP, hK, hN⟩, hD0⟩, hDb, hbz, hG⟩ := hv
  have hx := B.exec
  have hb := B.bytes
  have hr := B.returns
  have hts := atoms_spec (ws := wsL_stands) B.pre
  have hown : s.vm.findClass RL = some m.cls := findClass_of_methodNamed B.named
  have hlocks := B.notSynchronized
  have hTb : c.exceptionTable.toList = [⟨0, 17, 20, 13⟩] := vx_table (x := yL_stands) B (hts _ List.mem_cons_self)
  have k_1 := hts (.classLink RL 13 "java/lang/IllegalArgumentException") (by decide +kernel)
  subst hsz
  have hAb : ∀ q, va_A [(h0, .inr (8, [.ref t0, .ref m0, .ref c0, .ref x0, .ref f0, .ref w0])), (t0, .inr (7, [.ref th1, .ref th2, .int 4])), (th1, .inl (cyI, 200, .inl x_z0)), (th2, .inl (cyZ, 200, .inl x_face)), (o0, .inl (cyJ, 1, .inr (.inl go)))] s.heap.size q → x_new base q := x_Ab hDb hbz
  have hD := hD0.self (sz := s.heap.size)
  generalize hAe : va_A [(h0, .inr (8, [.ref t0, .ref m0, .ref c0, .ref x0, .ref f0, .ref w0])), (t0, .inr (7, [.ref th1, .ref th2, .int 4])), (th1, .inl (cyI, 200, .inl x_z0)), (th2, .inl (cyZ, 200, .inl x_face)), (o0, .inl (cyJ, 1, .inr (.inl go)))] s.heap.size = A at hD hAb ⊢
  have hA : ∀ q : Nat, s.heap.size ≤ q → A q := fun q h => by rw [← hAe]; exact Or.inr h
  have hl := lv_entry ([.ref h0, .int p0, .int p1, .ref o0]) (n := 5) (Nat.le_of_ble_eq_true rfl)
  rw [lg_entry_eq]
  generalize (lg_sl ([.ref h0, .int p0, .int p1, .ref o0]) ++ List.replicate (5 - (lg_sl ([.ref h0, .int p0, .int p1, .ref o0])).length) Slot.unset).toArray = ls at hl ⊢
  have hl : lv_has ls 5 [(0, .ref h0), (1, .int p0), (2, .int p1), (3, .ref o0)] := hl
  obtain ⟨H, hH⟩ : ∃ z, z = s.heap := ⟨_, rfl⟩
  refine x_here hH ?_
  have hP : va_P (dC, dI) vwCl [(h0, .inr (8, [.ref t0, .ref m0, .ref c0, .ref x0, .ref f0, .ref w0])), (t0, .inr (7, [.ref th1, .ref th2, .int 4])), (th1, .inl (cyI, 200, .inl x_z0)), (th2, .inl (cyZ, 200, .inl x_face)), (o0, .inl (cyJ, 1, .inr (.inl go)))] H := by rw [hH]; exact hP
  have hS : va_S A s.heap H [] := by rw [hH]; exact va_S.rf
  clear hH
  refine lv_aload_n hx hb dL_stands_0 rfl (lv_at hl 3 rfl) ?_
  refine lv_iconst (v := 0) hx hb dL_stands_1 (by decide) ?_
  refine lv_aload_n hx hb dL_stands_2 rfl (lv_at hl 0 rfl) ?_
  refine lv_iload_n hx hb dL_stands_3 rfl (lv_at hl 1 rfl) ?_
  refine lv_iload_n hx hb dL_stands_4 rfl (lv_at hl 2 rfl) ?_
  have hPc := hP.sub (ws' := [(h0, .inr (8, [.ref t0, .ref m0, .ref c0, .ref x0, .ref f0, .ref w0])), (t0, .inr (7, [.ref th1, .ref th2, .int 4])), (th1, .inl (cyI, 200, .inl x_z0)), (th2, .inl (cyZ, 200, .inl x_face))]) [0, 1, 2, 3] rfl
  have hDc := hDb.sub (ws' := [(h0, .inr (8, [.ref t0, .ref m0, .ref c0, .ref x0, .ref f0, .ref w0])), (t0, .inr (7, [.ref th1, .ref th2, .int 4])), (th1, .inl (cyI, 200, .inl x_z0)), (th2, .inl (cyZ, 200, .inl x_face))]) [0, 1, 2, 3] (by decide) rfl
  have hFc := va_free (wc := [(h0, .inr (8, [.ref t0, .ref m0, .ref c0, .ref x0, .ref f0, .ref w0])), (t0, .inr (7, [.ref th1, .ref th2, .int 4])), (th1, .inl (cyI, 200, .inl x_z0)), (th2, .inl (cyZ, 200, .inl x_face))]) hD hS hA [0, 1, 2, 3] rfl
  refine vx_calli (vx_runV (As := [.int p0, .int p1]) (rest := [.int 0, .ref o0]) ⟨hx, hb, hml, hown, hts⟩ (c_X8_stands l hl9 dC dI cyI cyZ cyJ base H.size h0 t0 m0 c0 x0 f0 w0 th1 th2 p0 p1) (cwV 2 hts gL_stands_X8_stands rfl rfl rfl (by decide +kernel) ⟨Nat.le_of_ble_eq_true rfl, Nat.le_of_ble_eq_true rfl⟩) (x_pVX hG hN hK hPc hDc (Nat.le_trans hbz hS.1) (fun q h1 h2 => hS.2.1 q h1 (fun h3 => h2 (hAb q h3))) (ci := 8) (q0 := 0) rfl rfl) rfl rfl hl.1 rfl (lv_room (Nat.le_of_ble_eq_true rfl)) dL_stands_5 ⟨Nat.le_of_ble_eq_true rfl, Nat.le_of_ble_eq_true rfl⟩) hS (fun q _ h => hFc q h) hFc (fun q _ h => hFc q h) (fun E ce q9 u t H1 locs ht hvm hpx hE hz1 hk1 hS hce hcv hcl => ?_) (fun r_5 u t H1 locs ht hvm hw hB hz1 hk1 hS => ?_)
  · obtain ⟨hP, hD⟩ := va_join (wr := [(o0, .inl (cyJ, 1, .inr (.inl go)))]) (w1 := []) hP hD [0, 1, 2, 3] [4] rfl rfl (by decide) (by decide) hk1 hFc x_P0 x_D0
    generalize H1 = H at hP hS hce ⊢
    have hP : va_P (dC, dI) vwCl [(o0, .inl (cyJ, 1, .inr (.inl go)))] H := hP
    have hD : va_D A [(o0, .inl (cyJ, 1, .inr (.inl go)))] := hD
    rcases hE with ⟨hk, rfl⟩ | ⟨hk, rfl⟩
    · refine vx_catch (name := "java/lang/IllegalArgumentException") hown [] ⟨0, 17, 20, 13⟩ [] hTb (fun z hz => by cases hz) (by decide) (by decide) k_1 (hG.2.2.2.1.use rfl) hce hcv hcl ?_
      refine W.widen (k := 1) (n := 6) (Nat.le_of_ble_eq_true rfl) (Nat.le_of_ble_eq_true rfl) ?_
      refine lv_astore (lv' := [(4, .ref q9), (0, .ref h0), (1, .int p0), (2, .int p1), (3, .ref o0)]) hx hb dL_stands_20 hl (by decide) rfl (fun ls hl => ?_)
      refine lv_iconst (v := 1) hx hb dL_stands_22 (by decide) ?_
      have hP9 := hP.sub (ws' := [(o0, .inl (cyJ, 1, .inr (.inl go)))]) [0] rfl
      have hD9 := hD.sub (ws' := [(o0, .inl (cyJ, 1, .inr (.inl go)))]) [0] (by decide) rfl
      exact W.iret hx hb hr (fun t ht hW => ⟨⟨_, (), rfl, hk.symm, go, by rw [ht]; exact hP9, va_K.moved hW.alike hK, hD9, fun h => absurd (hk.symm.trans h) (by decide)⟩, hS.F ht⟩) hS.2.2 dL_stands_23
    · exact absurd hk (n2_X8_stands p0 p1)
  · obtain ⟨hP, hD⟩ := va_join (wr := [(o0, .inl (cyJ, 1, .inr (.inl go)))]) (w1 := []) hP hD [0, 1, 2, 3] [4] rfl rfl (by decide) (by decide) hk1 hFc x_P0 x_D0
    generalize H1 = H at hP hS ⊢
    have hP : va_P (dC, dI) vwCl [(o0, .inl (cyJ, 1, .inr (.inl go)))] H := hP
    have hD : va_D A [(o0, .inl (cyJ, 1, .inr (.inl go)))] := hD
    refine W.widen (k := 1) (n := 6) (Nat.le_of_ble_eq_true rfl) (Nat.le_of_ble_eq_true rfl) ?_
    refine lv_if_eq (tgt := 15) hx hb dL_stands_8 (by decide) (fun c_1 => ?_) (fun c_1 => ?_)
    · skip
      refine lv_lconst (v := 0) hx hb dL_stands_15 (by decide) ?_
      refine va_last hx hb hK hP hD hS 0 2 rfl rfl (x_lit _ _ (by decide)) dL_stands_16 (fun H locs hP hD hS => ?_)
      have hP : va_P (dC, dI) vwCl [(o0, .inl (cyJ, 1, .inr (.inl (vp_updL go (Int32.toNatClampNeg 0) 0))))] H := hP
      have hD : va_D A [(o0, .inl (cyJ, 1, .inr (.inl (vp_updL go (Int32.toNatClampNeg 0) 0))))] := hD
      refine lv_goto (tgt := 24) hx hb dL_stands_17 (by decide) ?_
      refine lv_iconst (v := 0) hx hb dL_stands_24 (by decide) ?_
      have hP9 := hP.sub (ws' := [(o0, .inl (cyJ, 1, .inr (.inl (vp_updL go (Int32.toNatClampNeg 0) 0))))]) [0] rfl
      have hD9 := hD.sub (ws' := [(o0, .inl (cyJ, 1, .inr (.inl (vp_updL go (Int32.toNatClampNeg 0) 0))))]) [0] (by decide) rfl
      exact W.iret hx hb hr (fun t ht hW => ⟨⟨_, (), rfl, by rw [hw], (vp_updL go (Int32.toNatClampNeg 0) 0), by rw [ht]; exact hP9, va_K.moved hW.alike hK, hD9, fun _ => by rw [hw]; show _ = if r_5 = 0 then (0 : Int64) else 1; rw [if_pos c_1]; exact x_out⟩, hS.F ht⟩) hS.2.2 dL_stands_25
    · skip
      refine lv_lconst (v := 1) hx hb dL_stands_11 (by decide) ?_
      refine lv_goto (tgt := 16) hx hb dL_stands_12 (by decide) ?_
      refine va_last hx hb hK hP hD hS 0 2 rfl rfl (x_lit _ _ (by decide)) dL_stands_16 (fun H locs hP hD hS => ?_)
      have hP : va_P (dC, dI) vwCl [(o0, .inl (cyJ, 1, .inr (.inl (vp_updL go (Int32.toNatClampNeg 0) 1))))] H := hP
      have hD : va_D A [(o0, .inl (cyJ, 1, .inr (.inl (vp_updL go (Int32.toNatClampNeg 0) 1))))] := hD
      refine lv_goto (tgt := 24) hx hb dL_stands_17 (by decide) ?_
      refine lv_iconst (v := 0) hx hb dL_stands_24 (by decide) ?_
      have hP9 := hP.sub (ws' := [(o0, .inl (cyJ, 1, .inr (.inl (vp_updL go (Int32.toNatClampNeg 0) 1))))]) [0] rfl
      have hD9 := hD.sub (ws' := [(o0, .inl (cyJ, 1, .inr (.inl (vp_updL go (Int32.toNatClampNeg 0) 1))))]) [0] (by decide) rfl
      exact W.iret hx hb hr (fun t ht hW => ⟨⟨_, (), rfl, by rw [hw], (vp_updL go (Int32.toNatClampNeg 0) 1), by rw [ht]; exact hP9, va_K.moved hW.alike hK, hD9, fun _ => by rw [hw]; show _ = if r_5 = 0 then (0 : Int64) else 1; rw [if_neg c_1]; exact x_out⟩, hS.F ht⟩) hS.2.2 dL_stands_25

theorem n2_X8_common (p0 : Int32) (p1 : Int32) : ¬ (f_X8_common p0 p1).1 = 2 := (x_ite2 (x_leaf (by decide)) (x_ite2 (x_leaf (by decide)) (x_leaf (by decide))))
set_option maxHeartbeats 4000000 in
set_option maxRecDepth 100000 in
theorem c_L_common (l : Launch) (hl9 : l.stackTraces = false) (dC : Nat → ClassId) (dI : Nat → Nat → Nat) (cyI cyZ cyJ : ClassId) (base : Nat) (sz : Nat) (h0 : Nat) (t0 : Nat) (m0 : Nat) (c0 : Nat) (x0 : Nat) (f0 : Nat) (w0 : Nat) (th1 : Nat) (th2 : Nat) (p0 : Int32) (p1 : Int32) (o0 : Nat) (go : Nat → Int64) : Met l yL_common wsL_common ({ frames := 7, cells := 1, slots := 6, locals := 112 }) (va_Pc [.ref h0, .int p0, .int p1, .ref o0] (x_PreX (dC, dI) (x_T cyI cyZ cyJ) [(h0, .inr (8, [.ref t0, .ref m0, .ref c0, .ref x0, .ref f0, .ref w0])), (t0, .inr (7, [.ref th1, .ref th2, .int 4])), (th1, .inl (cyI, 200, .inl x_z0)), (o0, .inl (cyJ, 1, .inr (.inl go)))] base sz)) (va_Qi (fun (r : Int32) (_ : Unit) => r = (f_X8_common p0 p1).1) (fun (_ : Unit) (t : State) => ∃ u : Nat → Int64, va_P (dC, dI) vwCl [(o0, .inl (cyJ, 1, .inr (.inl u)))] t.heap ∧ va_K (dC, dI) vwCl (x_T cyI cyZ cyJ) t ∧ va_D (va_A [(h0, .inr (8, [.ref t0, .ref m0, .ref c0, .ref x0, .ref f0, .ref w0])), (t0, .inr (7, [.ref th1, .ref th2, .int 4])), (th1, .inl (cyI, 200, .inl x_z0)), (o0, .inl (cyJ, 1, .inr (.inl go)))] sz) [(o0, .inl (cyJ, 1, .inr (.inl u)))] ∧ ((f_X8_common p0 p1).1 = 0 → u 0 = Int32.toInt64 (f_X8_common p0 p1).2)) (va_A [(h0, .inr (8, [.ref t0, .ref m0, .ref c0, .ref x0, .ref f0, .ref w0])), (t0, .inr (7, [.ref th1, .ref th2, .int 4])), (th1, .inl (cyI, 200, .inl x_z0)), (o0, .inl (cyJ, 1, .inr (.inl go)))] sz)) 1 6 (va_A [(h0, .inr (8, [.ref t0, .ref m0, .ref c0, .ref x0, .ref f0, .ref w0])), (t0, .inr (7, [.ref th1, .ref th2, .int 4])), (th1, .inl (cyI, 200, .inl x_z0)), (o0, .inl (cyJ, 1, .inr (.inl go)))] sz) := by
  refine va_MetW (cc := cL_common) (maxL := 5) (ret := (some .int)) (hh := [(0, 10, 13, 13)]) (by decide) rfl ?_
  intro p e s m args below meth c s₁ B hml hv
  obtain ⟨rfl, ⟨⟨hsz, hP, hK, hN⟩, hD0⟩, hDb, hbz, hG⟩ := hv
  have hx := B.exec
  have hb := B.bytes
  have hr := B.returns
  have hts := atoms_spec (ws := wsL_common) B.pre
  have hown : s.vm.findClass RL = some m.cls := findClass_of_methodNamed B.named
  have hlocks := B.notSynchronized
  have hTb : c.exceptionTable.toList = [⟨0, 10, 13, 13⟩] := vx_table (x := yL_common) B (hts _ List.mem_cons_self)
  have k_1 := hts (.classLink RL 13 "java/lang/IllegalArgumentException") (by decide +kernel)
  subst hsz
  have hAb : ∀ q, va_A [(h0, .inr (8, [.ref t0, .ref m0, .ref c0, .ref x0, .ref f0, .ref w0])), (t0, .inr (7, [.ref th1, .ref th2, .int 4])), (th1, .inl (cyI, 200, .inl x_z0)), (o0, .inl (cyJ, 1, .inr (.inl go)))] s.heap.size q → x_new base q := x_Ab hDb hbz
  have hD := hD0.self (sz := s.heap.size)
  generalize hAe : va_A [(h0, .inr (8, [.ref t0, .ref m0, .ref c0, .ref x0, .ref f0, .ref w0])), (t0, .inr (7, [.ref th1, .ref th2, .int 4])), (th1, .inl (cyI, 200, .inl x_z0)), (o0, .inl (cyJ, 1, .inr (.inl go)))] s.heap.size = A at hD hAb ⊢
  have hA : ∀ q : Nat, s.heap.size ≤ q → A q := fun q h => by rw [← hAe]; exact Or.inr h
  have hl := lv_entry ([.ref h0, .int p0, .int p1, .ref o0]) (n := 5) (Nat.le_of_ble_eq_true rfl)
  rw [lg_entry_eq]
  generalize (lg_sl ([.ref h0, .int p0, .int p1, .ref o0]) ++ List.replicate (5 - (lg_sl ([.ref h0, .int p0, .int p1, .ref o0])).length) Slot.unset).toArray = ls at hl ⊢
  have hl : lv_has ls 5 [(0, .ref h0), (1, .int p0), (2, .int p1), (3, .ref o0)] := hl
  obtain ⟨H, hH⟩ : ∃ z, z = s.heap := ⟨_, rfl⟩
  refine x_here hH ?_
  have hP : va_P (dC, dI) vwCl [(h0, .inr (8, [.ref t0, .ref m0, .ref c0, .ref x0, .ref f0, .ref w0])), (t0, .inr (7, [.ref th1, .ref th2, .int 4])), (th1, .inl (cyI, 200, .inl x_z0)), (o0, .inl (cyJ, 1, .inr (.inl go)))] H := by rw [hH]; exact hP
  have hS : va_S A s.heap H [] := by rw [hH]; exact va_S.rf
  clear hH
  refine lv_aload_n hx hb dL_common_0 rfl (lv_at hl 3 rfl) ?_
  refine lv_iconst (v := 0) hx hb dL_common_1 (by decide) ?_
  refine lv_aload_n hx hb dL_common_2 rfl (lv_at hl 0 rfl) ?_
  refine lv_iload_n hx hb dL_common_3 rfl (lv_at hl 1 rfl) ?_
  refine lv_iload_n hx hb dL_common_4 rfl (lv_at hl 2 rfl) ?_
  have hPc := hP.sub (ws' := [(h0, .inr (8, [.ref t0, .ref m0, .ref c0, .ref x0, .ref f0, .ref w0])), (t0, .inr (7, [.ref th1, .ref th2, .int 4])), (th1, .inl (cyI, 200, .inl x_z0))]) [0, 1, 2] rfl
  have hDc := hDb.sub (ws' := [(h0, .inr (8, [.ref t0, .ref m0, .ref c0, .ref x0, .ref f0, .ref w0])), (t0, .inr (7, [.ref th1, .ref th2, .int 4])), (th1, .inl (cyI, 200, .inl x_z0))]) [0, 1, 2] (by decide) rfl
  have hFc := va_free (wc := [(h0, .inr (8, [.ref t0, .ref m0, .ref c0, .ref x0, .ref f0, .ref w0])), (t0, .inr (7, [.ref th1, .ref th2, .int 4])), (th1, .inl (cyI, 200, .inl x_z0))]) hD hS hA [0, 1, 2] rfl
  refine vx_calli (vx_runV (As := [.int p0, .int p1]) (rest := [.int 0, .ref o0]) ⟨hx, hb, hml, hown, hts⟩ (c_X8_common l hl9 dC dI cyI cyZ cyJ base H.size h0 t0 m0 c0 x0 f0 w0 th1 th2 p0 p1) (cwV 2 hts gL_common_X8_common rfl rfl rfl (by decide +kernel) ⟨Nat.le_of_ble_eq_true rfl, Nat.le_of_ble_eq_true rfl⟩) (x_pVX hG hN hK hPc hDc (Nat.le_trans hbz hS.1) (fun q h1 h2 => hS.2.1 q h1 (fun h3 => h2 (hAb q h3))) (ci := 8) (q0 := 0) rfl rfl) rfl rfl hl.1 rfl (lv_room (Nat.le_of_ble_eq_true rfl)) dL_common_5 ⟨Nat.le_of_ble_eq_true rfl, Nat.le_of_ble_eq_true rfl⟩) hS (fun q _ h => hFc q h) hFc (fun q _ h => hFc q h) (fun E ce q9 u t H1 locs ht hvm hpx hE hz1 hk1 hS hce hcv hcl => ?_) (fun r_5 u t H1 locs ht hvm hw hB hz1 hk1 hS => ?_)
  · obtain ⟨hP, hD⟩ := va_join (wr := [(o0, .inl (cyJ, 1, .inr (.inl go)))]) (w1 := []) hP hD [0, 1, 2] [3] rfl rfl (by decide) (by decide) hk1 hFc x_P0 x_D0
    generalize H1 = H at hP hS hce ⊢
    have hP : va_P (dC, dI) vwCl [(o0, .inl (cyJ, 1, .inr (.inl go)))] H := hP
    have hD : va_D A [(o0, .inl (cyJ, 1, .inr (.inl go)))] := hD
    rcases hE with ⟨hk, rfl⟩ | ⟨hk, rfl⟩
    · refine vx_catch (name := "java/lang/IllegalArgumentException") hown [] ⟨0, 10, 13, 13⟩ [] hTb (fun z hz => by cases hz) (by decide) (by decide) k_1 (hG.2.2.2.1.use rfl) hce hcv hcl ?_
      refine W.widen (k := 1) (n := 6) (Nat.le_of_ble_eq_true rfl) (Nat.le_of_ble_eq_true rfl) ?_
      refine lv_astore (lv' := [(4, .ref q9), (0, .ref h0), (1, .int p0), (2, .int p1), (3, .ref o0)]) hx hb dL_common_13 hl (by decide) rfl (fun ls hl => ?_)
      refine lv_iconst (v := 1) hx hb dL_common_15 (by decide) ?_
      have hP9 := hP.sub (ws' := [(o0, .inl (cyJ, 1, .inr (.inl go)))]) [0] rfl
      have hD9 := hD.sub (ws' := [(o0, .inl (cyJ, 1, .inr (.inl go)))]) [0] (by decide) rfl
      exact W.iret hx hb hr (fun t ht hW => ⟨⟨_, (), rfl, hk.symm, go, by rw [ht]; exact hP9, va_K.moved hW.alike hK, hD9, fun h => absurd (hk.symm.trans h) (by decide)⟩, hS.F ht⟩) hS.2.2 dL_common_16
    · exact absurd hk (n2_X8_common p0 p1)
  · obtain ⟨hP, hD⟩ := va_join (wr := [(o0, .inl (cyJ, 1, .inr (.inl go)))]) (w1 := []) hP hD [0, 1, 2] [3] rfl rfl (by decide) (by decide) hk1 hFc x_P0 x_D0
    generalize H1 = H at hP hS ⊢
    have hP : va_P (dC, dI) vwCl [(o0, .inl (cyJ, 1, .inr (.inl go)))] H := hP
    have hD : va_D A [(o0, .inl (cyJ, 1, .inr (.inl go)))] := hD
    refine W.widen (k := 1) (n := 6) (Nat.le_of_ble_eq_true rfl) (Nat.le_of_ble_eq_true rfl) ?_
    refine lv_i2l (v := (Int32.toInt64 r_5)) hx hb dL_common_8 rfl ?_
    refine va_last hx hb hK hP hD hS 0 2 rfl rfl (x_lit _ _ (by decide)) dL_common_9 (fun H locs hP hD hS => ?_)
    have hP : va_P (dC, dI) vwCl [(o0, .inl (cyJ, 1, .inr (.inl (vp_updL go (Int32.toNatClampNeg 0) (Int32.toInt64 r_5)))))] H := hP
    have hD : va_D A [(o0, .inl (cyJ, 1, .inr (.inl (vp_updL go (Int32.toNatClampNeg 0) (Int32.toInt64 r_5)))))] := hD
    refine lv_goto (tgt := 17) hx hb dL_common_10 (by decide) ?_
    refine lv_iconst (v := 0) hx hb dL_common_17 (by decide) ?_
    have hP9 := hP.sub (ws' := [(o0, .inl (cyJ, 1, .inr (.inl (vp_updL go (Int32.toNatClampNeg 0) (Int32.toInt64 r_5)))))]) [0] rfl
    have hD9 := hD.sub (ws' := [(o0, .inl (cyJ, 1, .inr (.inl (vp_updL go (Int32.toNatClampNeg 0) (Int32.toInt64 r_5)))))]) [0] (by decide) rfl
    exact W.iret hx hb hr (fun t ht hW => ⟨⟨_, (), rfl, by rw [hw], (vp_updL go (Int32.toNatClampNeg 0) (Int32.toInt64 r_5)), by rw [ht]; exact hP9, va_K.moved hW.alike hK, hD9, fun _ => by rw [hw]; exact x_out⟩, hS.F ht⟩) hS.2.2 dL_common_18
