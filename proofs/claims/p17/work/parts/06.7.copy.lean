/-! System.arraycopy within bounds -/
def x_cg (sp dp n : Int32) (n0 n1 : Nat) : Bool := !(decide (sp < 0) || decide (dp < 0) || decide (n < 0)) && decide (sp.toNatClampNeg + n.toNatClampNeg ≤ n0) && decide (dp.toNatClampNeg + n.toNatClampNeg ≤ n1)
theorem x_cgE {sp dp n : Int32} {n0 n1 : Nat} (h : x_cg sp dp n n0 n1 = true) : (¬ sp < 0 ∧ ¬ dp < 0 ∧ ¬ n < 0) ∧ sp.toNatClampNeg + n.toNatClampNeg ≤ n0 ∧ dp.toNatClampNeg + n.toNatClampNeg ≤ n1 := by
  unfold x_cg at h
  simp only [Bool.and_eq_true, Bool.not_eq_true', Bool.or_eq_false_iff, decide_eq_false_iff_not, decide_eq_true_eq] at h
  exact ⟨⟨h.1.1.1.1, h.1.1.1.2, h.1.1.2⟩, h.1.2, h.2⟩
theorem x_cg1 {sp dp n : Int32} {n0 n1 : Nat} (h : x_cg sp dp n n0 n1 = true) : ¬ sp < 0 := (x_cgE h).1.1
theorem x_cg2 {sp dp n : Int32} {n0 n1 : Nat} (h : x_cg sp dp n n0 n1 = true) : ¬ dp < 0 := (x_cgE h).1.2.1
theorem x_cg3 {sp dp n : Int32} {n0 n1 : Nat} (h : x_cg sp dp n n0 n1 = true) : ¬ n < 0 := (x_cgE h).1.2.2
theorem x_cg4 {sp dp n : Int32} {n0 n1 : Nat} (h : x_cg sp dp n n0 n1 = true) : sp.toNatClampNeg + n.toNatClampNeg ≤ n0 := (x_cgE h).2.1
theorem x_cg5 {sp dp n : Int32} {n0 n1 : Nat} (h : x_cg sp dp n n0 n1 = true) : dp.toNatClampNeg + n.toNatClampNeg ≤ n1 := (x_cgE h).2.2
/-! new arrays -/
theorem x_zcI (cA : ClassId) (N : Nat) : vp_cell cA (N, .inl x_z0) = arrV cA N (fun _ => defaultValue .int) := rfl
theorem x_zcZ (cA : ClassId) (N : Nat) : vp_cell cA (N, .inl x_z0) = arrV cA N (fun _ => defaultValue .boolean) := rfl
theorem x_zcJ (cA : ClassId) (N : Nat) : vp_cell cA (N, .inr (.inl x_zL)) = arrV cA N (fun _ => defaultValue .long) := rfl
/-! Arrays.copyOf of an int array to a longer one -/
def x_ng (n : Nat) (k : Int32) : Bool := !(decide (k < 0)) && decide (n < k.toNatClampNeg) && decide (k.toNatClampNeg ≤ 100000000)
theorem x_ngE {n : Nat} {k : Int32} (h : x_ng n k = true) : ¬ k < 0 ∧ n < k.toNatClampNeg ∧ k.toNatClampNeg ≤ 100000000 := by
  unfold x_ng at h
  simp only [Bool.and_eq_true, Bool.not_eq_true', decide_eq_false_iff_not, decide_eq_true_eq] at h
  exact ⟨h.1.1, h.1.2, h.2⟩
theorem x_ofN {n : Nat} (h : n ≤ 100000000) : (Int32.ofNat n).toInt = n := by
  rw [Int32.toInt_ofNat_of_lt]
  omega
theorem x_ofNc {n : Nat} (h : n ≤ 100000000) : (Int32.ofNat n).toNatClampNeg = n := by
  unfold Int32.toNatClampNeg
  rw [x_ofN h]
  omega
theorem x_clp {k : Int32} (h : ¬ k < 0) : k.toInt = (k.toNatClampNeg : Int) := by
  have h0 : ¬ k.toInt < (0 : Int32).toInt := fun q => h (Int32.lt_iff_toInt_lt.mpr q)
  have h1 : (0 : Int32).toInt = 0 := by decide
  unfold Int32.toNatClampNeg
  omega
theorem x_ngne {n : Nat} {k : Int32} (h : x_ng n k = true) : ¬ k = Int32.ofNat n := by
  obtain ⟨h1, h2, h3⟩ := x_ngE h
  have hn : n ≤ 100000000 := by omega
  intro q
  rw [q, x_ofNc hn] at h2
  omega
theorem x_ngmin {n : Nat} {k : Int32} (h : x_ng n k = true) : (if k < Int32.ofNat n then k else Int32.ofNat n) = Int32.ofNat n := by
  obtain ⟨h1, h2, h3⟩ := x_ngE h
  rw [if_neg]
  intro q
  rw [Int32.lt_iff_toInt_lt, x_ofN (by omega), x_clp h1] at q
  omega
set_option maxHeartbeats 4000000 in
set_option maxRecDepth 100000 in
theorem c_J7_copyOf (l : Launch) (dC : Nat → ClassId) (dI : Nat → Nat → Nat) (cyI cyZ cyJ : ClassId) (sz : Nat) (a n : Nat) (g : Nat → Int32) (k : Int32) (hg : x_ng n k = true) : Met l yJ7_copyOf_59c91 wsJ7_copyOf_59c91 ({ frames := 1, cells := 1, slots := k.toNatClampNeg, locals := 60 }) (va_Pc [.ref a, .int k] (x_PreD (dC, dI) (x_T cyI cyZ cyJ) [(a, .inl (cyI, n, .inl g))] sz)) (va_Qr (fun _ : Unit => True) (fun (_ : Unit) (q : Nat) (t : State) => va_P (dC, dI) vwCl [(a, .inl (cyI, n, .inl g)), (q, .inl (cyI, k.toNatClampNeg, .inl (va_cpy g x_z0 (Int32.toNatClampNeg 0) (Int32.toNatClampNeg 0) (Int32.toNatClampNeg (Int32.ofNat n)))))] t.heap ∧ va_K (dC, dI) vwCl (x_T cyI cyZ cyJ) t ∧ va_D (va_A [(a, .inl (cyI, n, .inl g))] sz) [(a, .inl (cyI, n, .inl g)), (q, .inl (cyI, k.toNatClampNeg, .inl (va_cpy g x_z0 (Int32.toNatClampNeg 0) (Int32.toNatClampNeg 0) (Int32.toNatClampNeg (Int32.ofNat n)))))]) (va_A [(a, .inl (cyI, n, .inl g))] sz)) 1 k.toNatClampNeg (va_A [(a, .inl (cyI, n, .inl g))] sz) := by
  refine Met.ofW (cc := cJ7_copyOf_59c91) (maxL := 3) (ret := (some (.array .int))) (by decide) rfl ?_
  intro p e s m args below meth c s₁ B hml hv
  obtain ⟨rfl, ⟨hsz, hP, hK, hN⟩, hD0⟩ := hv
  have hx := B.exec
  have hb := B.bytes
  have hr := B.returns
  have hts := atoms_spec (ws := wsJ7_copyOf_59c91) B.pre
  have hown : s.vm.findClass RJ7 = some m.cls := findClass_of_methodNamed B.named
  have k_1 := hts (.methodLink RJ7 304 Lib.Math.min.name) (by decide +kernel)
  have k_2 := hts (.static Lib.Math.min.name) (by decide +kernel)
  have k_3 := hts (.initialized "java/lang/Math") (by decide +kernel)
  have k_4 := hts (.code Lib.Math.min.name Lib.Math.min.code 2 (some .int)) (by decide +kernel)
  have k_5 := hts (.methodLink RJ7 150 arraycopyName) (by decide +kernel)
  have k_6 := hts (.native arraycopyName) (by decide +kernel)
  have k_7 := hts (.static arraycopyName) (by decide +kernel)
  have k_8 := hts (.initialized "java/lang/System") (by decide +kernel)
  have k_9 := hts (.arrayClass .int) (by decide +kernel)
  obtain ⟨g1, g2, g3⟩ := x_ngE hg
  subst hsz
  have hD := hD0.self (sz := s.heap.size)
  generalize hAe : va_A [(a, .inl (cyI, n, .inl g))] s.heap.size = A at hD ⊢
  have hA : ∀ q : Nat, s.heap.size ≤ q → A q := fun q h => by rw [← hAe]; exact Or.inr h
  have hS : va_S A s.heap s.heap [] := va_S.rf
  have hl := lv_entry ([.ref a, .int k]) (n := 3) (Nat.le_of_ble_eq_true rfl)
  rw [lg_entry_eq]
  generalize (lg_sl ([.ref a, .int k]) ++ List.replicate (3 - (lg_sl ([.ref a, .int k])).length) Slot.unset).toArray = ls at hl ⊢
  have hl : lv_has ls 3 [(0, .ref a), (1, .int k)] := hl
  refine lv_iload_n hx hb dJ7_copyOf_59c91_0 rfl (lv_at hl 1 rfl) ?_
  refine lv_aload_n hx hb dJ7_copyOf_59c91_1 rfl (lv_at hl 0 rfl) ?_
  refine va_alen (v := Int32.ofNat n) hx hb hK hP 0 0 rfl rfl rfl dJ7_copyOf_59c91_2 ?_
  refine lv_icmp_ne (tgt := 14) hx hb dJ7_copyOf_59c91_3 (by decide) (fun _ => ?_) (fun c_1 => absurd c_1 (x_ngne hg))
  refine lv_iload_n hx hb dJ7_copyOf_59c91_14 rfl (lv_at hl 1 rfl) ?_
  refine va_newa (atype := .int) (ty := .int) (n := k) (N' := k.toNatClampNeg) (a0 := (k.toNatClampNeg, .inl x_z0)) hx hb k_9 rfl hK hP hD hS hA (fun _ => x_zcI _ _) g1 rfl (by show k.toNatClampNeg * 4 ≤ 536870912; omega) (by show 0 + 1 ≤ 1; omega) (by show 0 + k.toNatClampNeg ≤ k.toNatClampNeg; omega) dJ7_copyOf_59c91_15 (fun q2 cN H hKn hP hD hS => ?_)
  obtain rfl : cyI = cN := x_one (i := 0) (j := 3) hKn rfl rfl (fun _ h => by cases h)
  clear hKn
  have hP : va_P (dC, dI) vwCl [(a, .inl (cyI, n, .inl g)), (q2, .inl (cyI, k.toNatClampNeg, .inl x_z0))] H := hP
  have hD : va_D A [(a, .inl (cyI, n, .inl g)), (q2, .inl (cyI, k.toNatClampNeg, .inl x_z0))] := hD
  refine lv_astore_n (lv' := [(2, .ref q2), (0, .ref a), (1, .int k)]) hx hb dJ7_copyOf_59c91_17 rfl hl (by decide) rfl (fun ls hl => ?_)
  refine lv_aload_n hx hb dJ7_copyOf_59c91_18 rfl (lv_at hl 1 rfl) ?_
  refine lv_iconst (v := 0) hx hb dJ7_copyOf_59c91_19 (by decide) ?_
  refine lv_aload_n hx hb dJ7_copyOf_59c91_20 rfl (lv_at hl 0 rfl) ?_
  refine lv_iconst (v := 0) hx hb dJ7_copyOf_59c91_21 (by decide) ?_
  refine lv_aload_n hx hb dJ7_copyOf_59c91_22 rfl (lv_at hl 1 rfl) ?_
  refine va_alen (v := Int32.ofNat n) hx hb hK hP 0 0 rfl rfl rfl dJ7_copyOf_59c91_23 ?_
  refine lv_iload_n hx hb dJ7_copyOf_59c91_24 rfl (lv_at hl 2 rfl) ?_
  refine va_mmin hx hb (hml.trans hl.1.symm) hown k_1 k_2 k_3 k_4 (Nat.le_of_ble_eq_true rfl) (Nat.le_of_ble_eq_true rfl) (Nat.le_of_ble_eq_true rfl) (by show 0 + k.toNatClampNeg ≤ k.toNatClampNeg; omega) dJ7_copyOf_59c91_25 ?_
  refine lv_topi (fun z_1 ez_1 => ?_)
  obtain rfl : z_1 = Int32.ofNat n := ez_1.trans (x_ngmin hg)
  have e0 : Int32.toNatClampNeg 0 = 0 := by decide
  have e1 := x_ofNc (n := n) (by omega)
  have e3 : ¬ Int32.ofNat n < 0 := by
    rw [Int32.lt_iff_toInt_lt, x_ofN (by omega)]
    have : (0 : Int32).toInt = 0 := by decide
    omega
  refine va_copyi hx hb (hml.trans hl.1.symm) hown k_5 k_6 k_7 k_8 hK hP hD hS 0 1 0 0 rfl rfl rfl rfl rfl (by decide) (by decide) e3 (by rw [e0, e1]; omega) (by rw [e0, e1]; omega) (fun _ _ => rfl) (Nat.le_of_ble_eq_true rfl) (Nat.le_of_ble_eq_true rfl) dJ7_copyOf_59c91_28 (fun H locs hP hD hS => ?_)
  refine lv_aload_n hx hb dJ7_copyOf_59c91_31 rfl (lv_at hl 0 rfl) ?_
  refine W.widen (k := 1) (n := k.toNatClampNeg) (by omega) (by omega) ?_
  exact W.aret hx hb hr (Or.inr ⟨_, rfl⟩) (Or.inr ⟨_, rfl⟩) (fun t ht hW => ⟨⟨(), _, rfl, trivial, by rw [ht]; exact hP, va_K.moved hW.alike hK, hD⟩, hS.F ht⟩) hS.2.2 dJ7_copyOf_59c91_32
def x_ng0 (k : Int32) : Bool := !(decide (k < 0)) && decide (k.toNatClampNeg ≤ 100000000)
theorem x_ng1 {k : Int32} (h : x_ng0 k = true) : ¬ k < 0 := by
  unfold x_ng0 at h
  simp only [Bool.and_eq_true, Bool.not_eq_true', decide_eq_false_iff_not, decide_eq_true_eq] at h
  exact h.1
theorem x_ng2 {k : Int32} (h : x_ng0 k = true) : k.toNatClampNeg * componentBytes .int ≤ 536870912 := by
  unfold x_ng0 at h
  simp only [Bool.and_eq_true, Bool.not_eq_true', decide_eq_false_iff_not, decide_eq_true_eq] at h
  have := h.2
  show k.toNatClampNeg * 4 ≤ 536870912
  omega
