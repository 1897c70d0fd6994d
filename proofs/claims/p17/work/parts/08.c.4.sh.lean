/-! the nearest CLASS above two -/
theorem y_B_0 {g : Nat → Int32} (hU : y_Up g) : ∀ (n : Nat) (x : Int), 0 ≤ x → x < 200 → x < n → y_B g 0 x := by
  intro n
  induction n with
  | zero => intro x h0 h2 h1; omega
  | succ n ih =>
    intro x h0 h2 h1
    by_cases e : x = 0
    · exact y_B_eq e
    · have a := hU.2 x.toNat (by omega) (by omega)
      exact (y_B_next (k := x.toNat) hU (by omega) h2 e (by omega)).mpr (ih _ (by omega) (by omega) (by omega))
theorem y_B0 {g : Nat → Int32} {x : Int} (hU : y_Up g) (h0 : 0 ≤ x) (h2 : x < 200) : y_B g 0 x := y_B_0 hU (x.toNat + 1) x h0 h2 (by omega)
theorem y_B_ge {g : Nat → Int32} {y x : Int} (hU : y_Up g) (h0 : 0 ≤ y) (h2 : x < 200) (h : y_B g y x) : y ≤ x := by
  by_cases e : y ≤ x
  · exact e
  · exact absurd h (y_B_lt hU h0 (x.toNat + 1) x (by omega) h2 (by omega))
def y_Cm (g : Nat → Int32) (x y r : Int) : Prop := 0 ≤ r ∧ y_B g r x ∧ y_B g r y ∧ ∀ k : Int, 0 ≤ k → y_B g k x → y_B g k y → k ≤ r
theorem y_Cm_c {g : Nat → Int32} {x y r x' y' r' : Int} (h : y_Cm g x y r) (hx : x' = x) (hy : y' = y) (hr : r' = r) : y_Cm g x' y' r' := by
  subst hx hy hr
  exact h
theorem y_Cm_1 {g : Nat → Int32} {x y r r' : Int} (h : y_Cm g x y r) (h' : y_Cm g x y r') : r = r' := by
  have a := h.2.2.2 r' h'.1 h'.2.1 h'.2.2.1
  have b := h'.2.2.2 r h.1 h.2.1 h.2.2.1
  omega
theorem y_Cm_s {g : Nat → Int32} {x y r : Int} (h : y_Cm g x y r) : y_Cm g y x r := ⟨h.1, h.2.2.1, h.2.1, fun k h0 hx hy => h.2.2.2 k h0 hy hx⟩
theorem y_Cm_e {g : Nat → Int32} {x : Int} (hU : y_Up g) (h0 : 0 ≤ x) (h2 : x < 200) : y_Cm g x x x := ⟨h0, y_B_eq rfl, y_B_eq rfl, fun k h hk _ => y_B_ge hU h h2 hk⟩
theorem y_Cm_R {g : Nat → Int32} {x y z r : Int} {k : Nat} (hU : y_Up g) (h0 : 0 ≤ x) (hxy : x < y) (h2 : y < 200) (hk : (k : Int) = y) (h : y_Cm g x z r) (hz : z = (g k).toInt) : y_Cm g x y r := by
  subst hz
  have a := y_B_ge hU h.1 (by omega) h.2.1
  refine ⟨h.1, h.2.1, (y_B_next (k := k) hU hk h2 (by omega) h.1).mpr h.2.2.1, fun j hj hx hy => ?_⟩
  have b := y_B_ge hU hj (by omega) hx
  exact h.2.2.2 j hj hx ((y_B_next (k := k) hU hk h2 (by omega) hj).mp hy)
theorem y_Cm_L {g : Nat → Int32} {x y z r : Int} {k : Nat} (hU : y_Up g) (h0 : 0 ≤ y) (hxy : y < x) (h2 : x < 200) (hk : (k : Int) = x) (h : y_Cm g z y r) (hz : z = (g k).toInt) : y_Cm g x y r := y_Cm_s (y_Cm_R hU h0 hxy h2 hk (y_Cm_s h) hz)
theorem y_Cm_h {g : Nat → Int32} {x y : Int} (hU : y_Up g) (h0 : 0 ≤ x) (h2 : x < 200) (h : y_B g x y) : y_Cm g x y x := ⟨h0, y_B_eq rfl, h, fun k hk hx _ => y_B_ge hU hk h2 hx⟩
theorem y_Cm_n {g : Nat → Int32} {x y r : Int} {k : Nat} (hU : y_Up g) (h2 : x < 200) (hk : (k : Int) = x) (hn : ¬ y_B g x y) (h : y_Cm g (g k).toInt y r) : y_Cm g x y r := by
  have a : ¬ x = r := fun e => hn (by rw [e]; exact h.2.2.1)
  refine ⟨h.1, (y_B_next (k := k) hU hk h2 a h.1).mpr h.2.1, h.2.2.1, fun j hj hx hy => ?_⟩
  have b : ¬ x = j := fun e => hn (by rw [e]; exact hy)
  exact h.2.2.2 j hj ((y_B_next (k := k) hU hk h2 b hj).mp hx) hy
/-! interfaces are below Object alone, and nothing is below one -/
def y_Fa (v : Int) (g f : Nat → Int32) : Prop := (∀ k : Nat, 1 ≤ k → k < 200 → (f (g k).toInt.toNat).toInt = 0 ∧ (¬ (f k).toInt = 0 → (g k).toInt = 0)) ∧ (f 0).toInt = 0 ∧ ∀ k : Nat, v ≤ k → k < 200 → (g k).toInt = 0
theorem y_Fa_B {v : Int} {g f : Nat → Int32} {x : Int} {kx : Nat} (hU : y_Up g) (hF : y_Fa v g f) (hk : (kx : Int) = x) (hf : ¬ (f kx).toInt = 0) : ∀ (n : Nat) (y : Int), 0 ≤ y → y < 200 → y < n → y_B g x y → y = x := by
  intro n
  induction n with
  | zero => intro y h0 h2 h1; omega
  | succ n ih =>
    intro y h0 h2 h1 hb
    by_cases e : y = x
    · exact e
    · have hb2 := (y_B_next (k := y.toNat) hU (by omega) h2 e (by omega)).mp hb
      by_cases e0 : y = 0
      · exfalso
        have e1 : y.toNat = 0 := by omega
        rw [e1] at hb2
        have a := hU.1
        exact y_B_neg (by omega) (by omega) hb2
      · exfalso
        have a := hU.2 y.toNat (by omega) (by omega)
        have c := ih _ (by omega) (by omega) (by omega) hb2
        have d := (hF.1 y.toNat (by omega) (by omega)).1
        rw [c] at d
        have q : x.toNat = kx := by omega
        rw [q] at d
        exact hf d
theorem y_Cm_f {v : Int} {g f : Nat → Int32} {x y : Int} {kx : Nat} (hU : y_Up g) (hF : y_Fa v g f) (hk : (kx : Int) = x) (hx : x < 200) (hf : ¬ (f kx).toInt = 0) (h0 : 0 ≤ y) (h2 : y < 200) (hn : ¬ x = y) : y_Cm g x y 0 := by
  have hx0 : 1 ≤ kx := by
    rcases Nat.eq_zero_or_pos kx with e | e
    · rw [e] at hf
      exact absurd hF.2.1 hf
    · exact e
  refine ⟨by omega, y_B0 hU (by omega) hx, y_B0 hU h0 h2, fun j hj ha hb => ?_⟩
  by_cases e : x = j
  · have := y_Fa_B hU hF hk hf (y.toNat + 1) y h0 h2 (by omega) (by rw [e]; exact hb)
    omega
  · have hb2 := (y_B_next (k := kx) hU hk hx e hj).mp ha
    have z := (hF.1 kx hx0 (by omega)).2 hf
    rw [z] at hb2
    exact y_B_ge hU hj (by omega) hb2
theorem y_Fa_add {v v2 : Int} {g f : Nat → Int32} {i kk : Nat} {u b : Int32} (hU : y_Up g) (hF : y_Fa v g f) (hi : (i : Int) = v) (h4 : 4 ≤ i) (h1 : u.toInt < i) (hk : (kk : Int) = u.toInt) (hu : (f kk).toInt = 0) (hb : b.toInt = 0 ∨ u.toInt = 0) (h2 : v2 = v + 1) : y_Fa v2 (upd g i u) (upd f i b) := by
  refine ⟨fun k hk1 hk2 => ?_, ?_, fun k hk1 hk2 => ?_⟩
  · by_cases e : k = i
    · subst e
      have q : u.toInt.toNat = kk := by omega
      rw [y_upd1 g k u, y_upd1 f k b, q, y_upd2 (by omega)]
      refine ⟨hu, fun hn => ?_⟩
      rcases hb with hb | hb
      · exact absurd hb hn
      · exact hb
    · rw [y_upd2 (g := g) (v := u) e, y_upd2 (g := f) (v := b) e]
      have a := hU.2 k hk1 hk2
      have c := hF.1 k hk1 hk2
      have d : (g k).toInt.toNat ≠ i := by
        by_cases q : (k : Int) < v
        · omega
        · have := hF.2.2 k (by omega) hk2
          omega
      rw [y_upd2 d]
      exact c
  · rw [y_upd2 (by omega)]
    exact hF.2.1
  · rw [y_upd2 (by omega)]
    exact hF.2.2 k (by omega) hk2
def y_Mn (s t r : Int) : Prop := (r = 65536 * (s / 65536) ∧ s % 65536 < 65528 ∧ (s / 65536 ≤ t / 65536 - 1 ∨ (t % 65536 < 65528 ∧ s / 65536 ≤ t / 65536))) ∨ (r = 65536 * (s / 65536 - 1) ∧ 65528 ≤ s % 65536 ∧ (s / 65536 ≤ t / 65536 ∨ (t % 65536 < 65528 ∧ s / 65536 - 1 ≤ t / 65536))) ∨ (r = 65536 * (t / 65536) ∧ t % 65536 < 65528 ∧ (t / 65536 ≤ s / 65536 - 1 ∨ (s % 65536 < 65528 ∧ t / 65536 ≤ s / 65536))) ∨ (r = 65536 * (t / 65536 - 1) ∧ 65528 ≤ t % 65536 ∧ (t / 65536 ≤ s / 65536 ∨ (s % 65536 < 65528 ∧ t / 65536 - 1 ≤ s / 65536)))
theorem y_Mn_1 {s t r r' : Int} (h : y_Mn s t r) (h' : y_Mn s t r') : r = r' := by
  rcases h with h | h | h | h <;> rcases h' with h' | h' | h' | h' <;> omega
def y_Sh (v : Int) (g : Nat → Int32) (s t r : Int) : Prop := (s = t ∧ r = s) ∨ (¬ s = t ∧ (s / 65536 = t / 65536 ∧ s % 65536 < v ∧ t % 65536 < v) ∧ y_Cm g (s % 65536) (t % 65536) (r - 65536 * (s / 65536))) ∨ (¬ s = t ∧ ¬ (s / 65536 = t / 65536 ∧ s % 65536 < v ∧ t % 65536 < v) ∧ y_Mn s t r)
theorem y_Sh_1 {v : Int} {g : Nat → Int32} {s t r r' : Int} (h : y_Sh v g s t r) (h' : y_Sh v g s t r') : r = r' := by
  rcases h with h | h | h <;> rcases h' with h' | h' | h'
  · omega
  · exact absurd h.1 h'.1
  · exact absurd h.1 h'.1
  · exact absurd h'.1 h.1
  · have := y_Cm_1 h.2.2 h'.2.2
    omega
  · exact absurd h.2.1 h'.2.1
  · exact absurd h'.1 h.1
  · exact absurd h'.2.1 h.2.1
  · exact y_Mn_1 h.2.2 h'.2.2
set_option maxHeartbeats 4000000 in
theorem ye_X7_sharedOf_L_0_i {v7_2 : Int32} {g7_0 : Nat → Int32} {l5 : Int32} {g9_4 : Nat → Int32} (hU : y_Up g9_4) (hab : y_Ab g7_0 g9_4) (k2 : 0 ≤ l5.toInt) (k3 : l5.toInt ≤ 255) : ∀ (m : Nat) {l3 : Int32} {l4 : Int32} {l7 : Int32}, (0 ≤ l3.toInt) → (l3.toInt < 200) → (0 ≤ l4.toInt) → (l4.toInt < 200) → (0 ≤ l7.toInt) → (l3.toInt + l4.toInt + l7.toInt ≤ 398) → 400 - l7.toInt < m → y_Ok (f_X7_sharedOf_L v7_2 g7_0 l5 (0, l3, l4, l7)) (fun r => (y_Cm g9_4 l3.toInt l4.toInt (r.toInt - 65536 * l5.toInt))) := by
  intro m
  induction m with
  | zero => intro l3 l4 l7 k4 k5 k6 k7 k8 k9 hm; exfalso; omega
  | succ m ih =>
    intro l3 l4 l7 k4 k5 k6 k7 k8 k9 hm
    rw [f_X7_sharedOf_L]
    refine y_ip rfl ?_
    refine y_if (fun c1 => ?_) (fun c1 => ?_)
    · skip
      have e2 : (400 : Int32).toInt = 400 := rfl
      have c1' := c1
      rw [Int32.le_iff_toInt_le] at c1'
      try have e3 := @y_shl16 l5 (by omega) (by omega)
      try have e4 := @y_add (l5 <<< (16 &&& 31)) l3 (by omega) (by omega)
      refine y_some ?_
      try dsimp only
      (first | (exfalso; omega) | (exact y_Cm_c (y_Cm_e (x := l3.toInt) hU (by omega) (by omega)) (by omega) (by omega) (by omega)) | (exact y_Cm_R (k := (Int32.toNatClampNeg l4)) hU (by omega) (by omega) (by omega) (by omega) ‹y_Cm _ _ _ _› (by rw [heq4])) | (exact y_Cm_L (k := (Int32.toNatClampNeg l3)) hU (by omega) (by omega) (by omega) (by omega) ‹y_Cm _ _ _ _› (by rw [heq3])) | with_reducible assumption | omega)
    · skip
      have e5 : (400 : Int32).toInt = 400 := rfl
      have c1' := c1
      rw [Int32.le_iff_toInt_le] at c1'
      refine y_if (fun c6 => ?_) (fun c6 => ?_)
      · skip
        have c6' := c6
        rw [← Int32.toInt_inj] at c6'
        try have e7 := @y_shl16 l5 (by omega) (by omega)
        try have e8 := @y_add (l5 <<< (16 &&& 31)) l3 (by omega) (by omega)
        refine y_some ?_
        try dsimp only
        (first | (exfalso; omega) | (exact y_Cm_c (y_Cm_e (x := l3.toInt) hU (by omega) (by omega)) (by omega) (by omega) (by omega)) | (exact y_Cm_R (k := (Int32.toNatClampNeg l4)) hU (by omega) (by omega) (by omega) (by omega) ‹y_Cm _ _ _ _› (by rw [heq4])) | (exact y_Cm_L (k := (Int32.toNatClampNeg l3)) hU (by omega) (by omega) (by omega) (by omega) ‹y_Cm _ _ _ _› (by rw [heq3])) | with_reducible assumption | omega)
      · skip
        have c6' := c6
        rw [← Int32.toInt_inj] at c6'
        refine y_if (fun c9 => ?_) (fun c9 => ?_)
        · skip
          have c9' := c9
          rw [Int32.le_iff_toInt_le] at c9'
          have hcl := @y_cl l4 (by omega)
          have heq4 := hab (Int32.toNatClampNeg l4) (by omega)
          have hupk := hU.2 (Int32.toNatClampNeg l4) (by omega) (by omega)
          rw [← heq4] at hupk
          refine y_gd (y_gdI (by omega) (by omega)) ?_
          try have e10 := @y_cl l4 (by omega)
          try have e11 := @y_addL l7 (1 : Int32) (1) rfl (by omega) (by omega)
          refine y_Ok.mono (ih (l3 := l3) (l4 := (g7_0 (Int32.toNatClampNeg l4))) (l7 := (l7 + 1)) (by omega) (by omega) (by omega) (by omega) (by omega) (by omega) (by omega)) (fun r_t11 h_r_t11 => ?_)
          (first | (exfalso; omega) | (exact y_Cm_c (y_Cm_e (x := l3.toInt) hU (by omega) (by omega)) (by omega) (by omega) (by omega)) | (exact y_Cm_R (k := (Int32.toNatClampNeg l4)) hU (by omega) (by omega) (by omega) (by omega) ‹y_Cm _ _ _ _› (by rw [heq4])) | (exact y_Cm_L (k := (Int32.toNatClampNeg l3)) hU (by omega) (by omega) (by omega) (by omega) ‹y_Cm _ _ _ _› (by rw [heq3])) | with_reducible assumption | omega)
        · skip
          have c9' := c9
          rw [Int32.le_iff_toInt_le] at c9'
          have hcl := @y_cl l3 (by omega)
          have heq3 := hab (Int32.toNatClampNeg l3) (by omega)
          have hupk := hU.2 (Int32.toNatClampNeg l3) (by omega) (by omega)
          rw [← heq3] at hupk
          refine y_gd (y_gdI (by omega) (by omega)) ?_
          try have e13 := @y_cl l3 (by omega)
          try have e14 := @y_addL l7 (1 : Int32) (1) rfl (by omega) (by omega)
          refine y_Ok.mono (ih (l3 := (g7_0 (Int32.toNatClampNeg l3))) (l4 := l4) (l7 := (l7 + 1)) (by omega) (by omega) (by omega) (by omega) (by omega) (by omega) (by omega)) (fun r_t14 h_r_t14 => ?_)
          (first | (exfalso; omega) | (exact y_Cm_c (y_Cm_e (x := l3.toInt) hU (by omega) (by omega)) (by omega) (by omega) (by omega)) | (exact y_Cm_R (k := (Int32.toNatClampNeg l4)) hU (by omega) (by omega) (by omega) (by omega) ‹y_Cm _ _ _ _› (by rw [heq4])) | (exact y_Cm_L (k := (Int32.toNatClampNeg l3)) hU (by omega) (by omega) (by omega) (by omega) ‹y_Cm _ _ _ _› (by rw [heq3])) | with_reducible assumption | omega)
theorem ye_X7_sharedOf_L_0 {v7_2 : Int32} {g7_0 : Nat → Int32} {l5 : Int32} {g9_4 : Nat → Int32} {l3 : Int32} {l4 : Int32} {l7 : Int32} (hU : y_Up g9_4) (hab : y_Ab g7_0 g9_4) (k2 : 0 ≤ l5.toInt) (k3 : l5.toInt ≤ 255) (k4 : 0 ≤ l3.toInt) (k5 : l3.toInt < 200) (k6 : 0 ≤ l4.toInt) (k7 : l4.toInt < 200) (k8 : 0 ≤ l7.toInt) (k9 : l3.toInt + l4.toInt + l7.toInt ≤ 398) : y_Ok (f_X7_sharedOf_L v7_2 g7_0 l5 (0, l3, l4, l7)) (fun r => (y_Cm g9_4 l3.toInt l4.toInt (r.toInt - 65536 * l5.toInt))) := ye_X7_sharedOf_L_0_i (g9_4 := g9_4) hU hab k2 k3 (400 - l7.toInt + 1).toNat k4 k5 k6 k7 k8 k9 (by omega)
set_option maxHeartbeats 4000000 in
theorem ye_X7_sharedOf {v7_2 : Int32} {g7_0 : Nat → Int32} {p1 : Int32} {p2 : Int32} {g9_4 : Nat → Int32} (k0 : 4 ≤ v7_2.toInt) (k1 : v7_2.toInt ≤ 200) (hU : y_Up g9_4) (hab : y_Ab g7_0 g9_4) (k4 : 0 ≤ p1.toInt) (k5 : p1.toInt < 16777216) (k6 : p1.toInt % 65536 < v7_2.toInt ∨ 65528 ≤ p1.toInt % 65536) (k7 : ¬ (65528 ≤ p1.toInt ∧ p1.toInt < 65536)) (k8 : 0 ≤ p2.toInt) (k9 : p2.toInt < 16777216) (k10 : p2.toInt % 65536 < v7_2.toInt ∨ 65528 ≤ p2.toInt % 65536) (k11 : ¬ (65528 ≤ p2.toInt ∧ p2.toInt < 65536)) : y_Ok (f_X7_sharedOf v7_2 g7_0 p1 p2) (fun r => (y_Sh v7_2.toInt g9_4 p1.toInt p2.toInt r.toInt)) := by
  have hax := y_and16 p1
  have hay := y_and16 p2
  unfold f_X7_sharedOf
  refine y_if (fun c1 => ?_) (fun c1 => ?_)
  · skip
    have c1' := c1
    rw [← Int32.toInt_inj] at c1'
    refine y_some ?_
    try dsimp only
    (first | (exact Or.inl ⟨by omega, by omega⟩) | (exact Or.inr (Or.inr ⟨by omega, by omega, by unfold y_Mn; omega⟩)) | (exact Or.inr (Or.inl ⟨by omega, by omega, y_Cm_c ‹y_Cm _ _ _ _› (by omega) (by omega) (by omega)⟩)) | (exfalso; omega) | with_reducible assumption | omega)
  · skip
    have c1' := c1
    rw [← Int32.toInt_inj] at c1'
    refine y_bi (y_X7_dimensionsOf (by omega)) (fun r_7 h_r_7 => ?_)
    have h0_r_7 : r_7.toInt = p1.toInt / 65536 := h_r_7
    refine y_bi (y_X7_dimensionsOf (by omega)) (fun r_8 h_r_8 => ?_)
    have h0_r_8 : r_8.toInt = p2.toInt / 65536 := h_r_8
    refine y_if (fun c2 => ?_) (fun c2 => ?_)
    · skip
      have c2' := c2
      rw [← Int32.toInt_inj] at c2'
      refine y_if (fun c3 => ?_) (fun c3 => ?_)
      · skip
        have e4 := y_and16 p1
        have c3' := c3
        rw [Int32.le_iff_toInt_le] at c3'
        refine y_if (fun c5 => ?_) (fun c5 => ?_)
        · skip
          have e6 : (65528 : Int32).toInt = 65528 := rfl
          have c5' := c5
          rw [Int32.le_iff_toInt_le] at c5'
          refine y_if (fun c7 => ?_) (fun c7 => ?_)
          · skip
            have e8 := y_and16 p2
            have c7' := c7
            rw [Int32.le_iff_toInt_le] at c7'
            refine y_if (fun c9 => ?_) (fun c9 => ?_)
            · skip
              try have e10 := @y_subL r_8 (1 : Int32) (1) rfl (by omega) (by omega)
              try have e11 := @y_subL r_7 (1 : Int32) (1) rfl (by omega) (by omega)
              have c9' := c9
              rw [Int32.le_iff_toInt_le] at c9'
              try have e12 := @y_shl16 (r_8 - (1 : Int32)) (by omega) (by omega)
              refine y_some ?_
              try dsimp only
              (first | (exact Or.inl ⟨by omega, by omega⟩) | (exact Or.inr (Or.inr ⟨by omega, by omega, by unfold y_Mn; omega⟩)) | (exact Or.inr (Or.inl ⟨by omega, by omega, y_Cm_c ‹y_Cm _ _ _ _› (by omega) (by omega) (by omega)⟩)) | (exfalso; omega) | with_reducible assumption | omega)
            · skip
              try have e13 := @y_subL r_8 (1 : Int32) (1) rfl (by omega) (by omega)
              try have e14 := @y_subL r_7 (1 : Int32) (1) rfl (by omega) (by omega)
              have c9' := c9
              rw [Int32.le_iff_toInt_le] at c9'
              try have e15 := @y_shl16 (r_7 - (1 : Int32)) (by omega) (by omega)
              refine y_some ?_
              try dsimp only
              (first | (exact Or.inl ⟨by omega, by omega⟩) | (exact Or.inr (Or.inr ⟨by omega, by omega, by unfold y_Mn; omega⟩)) | (exact Or.inr (Or.inl ⟨by omega, by omega, y_Cm_c ‹y_Cm _ _ _ _› (by omega) (by omega) (by omega)⟩)) | (exfalso; omega) | with_reducible assumption | omega)
          · skip
            have e16 := y_and16 p2
            have c7' := c7
            rw [Int32.le_iff_toInt_le] at c7'
            refine y_if (fun c17 => ?_) (fun c17 => ?_)
            · skip
              try have e18 := @y_subL r_7 (1 : Int32) (1) rfl (by omega) (by omega)
              have c17' := c17
              rw [Int32.le_iff_toInt_le] at c17'
              try have e19 := @y_shl16 r_8 (by omega) (by omega)
              refine y_some ?_
              try dsimp only
              (first | (exact Or.inl ⟨by omega, by omega⟩) | (exact Or.inr (Or.inr ⟨by omega, by omega, by unfold y_Mn; omega⟩)) | (exact Or.inr (Or.inl ⟨by omega, by omega, y_Cm_c ‹y_Cm _ _ _ _› (by omega) (by omega) (by omega)⟩)) | (exfalso; omega) | with_reducible assumption | omega)
            · skip
              try have e20 := @y_subL r_7 (1 : Int32) (1) rfl (by omega) (by omega)
              have c17' := c17
              rw [Int32.le_iff_toInt_le] at c17'
              try have e21 := @y_shl16 (r_7 - (1 : Int32)) (by omega) (by omega)
              refine y_some ?_
              try dsimp only
              (first | (exact Or.inl ⟨by omega, by omega⟩) | (exact Or.inr (Or.inr ⟨by omega, by omega, by unfold y_Mn; omega⟩)) | (exact Or.inr (Or.inl ⟨by omega, by omega, y_Cm_c ‹y_Cm _ _ _ _› (by omega) (by omega) (by omega)⟩)) | (exfalso; omega) | with_reducible assumption | omega)
        · skip
          have e22 : (65528 : Int32).toInt = 65528 := rfl
          have c5' := c5
          rw [Int32.le_iff_toInt_le] at c5'
          refine y_if (fun c23 => ?_) (fun c23 => ?_)
          · skip
            have e24 := y_and16 p2
            have c23' := c23
            rw [Int32.le_iff_toInt_le] at c23'
            refine y_if (fun c25 => ?_) (fun c25 => ?_)
            · skip
              try have e26 := @y_subL r_8 (1 : Int32) (1) rfl (by omega) (by omega)
              have c25' := c25
              rw [Int32.le_iff_toInt_le] at c25'
              try have e27 := @y_shl16 (r_8 - (1 : Int32)) (by omega) (by omega)
              refine y_some ?_
              try dsimp only
              (first | (exact Or.inl ⟨by omega, by omega⟩) | (exact Or.inr (Or.inr ⟨by omega, by omega, by unfold y_Mn; omega⟩)) | (exact Or.inr (Or.inl ⟨by omega, by omega, y_Cm_c ‹y_Cm _ _ _ _› (by omega) (by omega) (by omega)⟩)) | (exfalso; omega) | with_reducible assumption | omega)
            · skip
              try have e28 := @y_subL r_8 (1 : Int32) (1) rfl (by omega) (by omega)
              have c25' := c25
              rw [Int32.le_iff_toInt_le] at c25'
              try have e29 := @y_shl16 r_7 (by omega) (by omega)
              refine y_some ?_
              try dsimp only
              (first | (exact Or.inl ⟨by omega, by omega⟩) | (exact Or.inr (Or.inr ⟨by omega, by omega, by unfold y_Mn; omega⟩)) | (exact Or.inr (Or.inl ⟨by omega, by omega, y_Cm_c ‹y_Cm _ _ _ _› (by omega) (by omega) (by omega)⟩)) | (exfalso; omega) | with_reducible assumption | omega)
          · skip
            have e30 := y_and16 p2
            have c23' := c23
            rw [Int32.le_iff_toInt_le] at c23'
            refine y_if (fun c31 => ?_) (fun c31 => ?_)
            · skip
              have c31' := c31
              rw [Int32.le_iff_toInt_le] at c31'
              try have e32 := @y_shl16 r_8 (by omega) (by omega)
              refine y_some ?_
              try dsimp only
              (first | (exact Or.inl ⟨by omega, by omega⟩) | (exact Or.inr (Or.inr ⟨by omega, by omega, by unfold y_Mn; omega⟩)) | (exact Or.inr (Or.inl ⟨by omega, by omega, y_Cm_c ‹y_Cm _ _ _ _› (by omega) (by omega) (by omega)⟩)) | (exfalso; omega) | with_reducible assumption | omega)
            · skip
              have c31' := c31
              rw [Int32.le_iff_toInt_le] at c31'
              try have e33 := @y_shl16 r_7 (by omega) (by omega)
              refine y_some ?_
              try dsimp only
              (first | (exact Or.inl ⟨by omega, by omega⟩) | (exact Or.inr (Or.inr ⟨by omega, by omega, by unfold y_Mn; omega⟩)) | (exact Or.inr (Or.inl ⟨by omega, by omega, y_Cm_c ‹y_Cm _ _ _ _› (by omega) (by omega) (by omega)⟩)) | (exfalso; omega) | with_reducible assumption | omega)
      · skip
        have e34 := y_and16 p1
        have c3' := c3
        rw [Int32.le_iff_toInt_le] at c3'
        refine y_if (fun c35 => ?_) (fun c35 => ?_)
        · skip
          have e36 := y_and16 p2
          have c35' := c35
          rw [Int32.lt_iff_toInt_lt] at c35'
          have e37 : (0 : Int32).toInt = 0 := rfl
          refine y_Ok.mono (ye_X7_sharedOf_L_0 (g9_4 := g9_4) (l3 := (p1 &&& 65535)) (l4 := (p2 &&& 65535)) (l7 := 0) (by first | (exact Or.inl ⟨by omega, by omega⟩) | (exact Or.inr (Or.inr ⟨by omega, by omega, by unfold y_Mn; omega⟩)) | (exact Or.inr (Or.inl ⟨by omega, by omega, y_Cm_c ‹y_Cm _ _ _ _› (by omega) (by omega) (by omega)⟩)) | (exfalso; omega) | with_reducible assumption | omega) (by first | (exact Or.inl ⟨by omega, by omega⟩) | (exact Or.inr (Or.inr ⟨by omega, by omega, by unfold y_Mn; omega⟩)) | (exact Or.inr (Or.inl ⟨by omega, by omega, y_Cm_c ‹y_Cm _ _ _ _› (by omega) (by omega) (by omega)⟩)) | (exfalso; omega) | with_reducible assumption | omega) (by omega) (by omega) (by omega) (by omega) (by omega) (by omega) (by omega) (by omega)) (fun r_t37 h_r_t37 => ?_)
          (first | (exact Or.inl ⟨by omega, by omega⟩) | (exact Or.inr (Or.inr ⟨by omega, by omega, by unfold y_Mn; omega⟩)) | (exact Or.inr (Or.inl ⟨by omega, by omega, y_Cm_c ‹y_Cm _ _ _ _› (by omega) (by omega) (by omega)⟩)) | (exfalso; omega) | with_reducible assumption | omega)
        · skip
          have e39 := y_and16 p2
          have c35' := c35
          rw [Int32.lt_iff_toInt_lt] at c35'
          refine y_if (fun c40 => ?_) (fun c40 => ?_)
          · skip
            have e41 : (65528 : Int32).toInt = 65528 := rfl
            have c40' := c40
            rw [Int32.le_iff_toInt_le] at c40'
            refine y_if (fun c42 => ?_) (fun c42 => ?_)
            · skip
              have c42' := c42
              rw [Int32.le_iff_toInt_le] at c42'
              refine y_if (fun c43 => ?_) (fun c43 => ?_)
              · skip
                try have e44 := @y_subL r_8 (1 : Int32) (1) rfl (by omega) (by omega)
                try have e45 := @y_subL r_7 (1 : Int32) (1) rfl (by omega) (by omega)
                have c43' := c43
                rw [Int32.le_iff_toInt_le] at c43'
                try have e46 := @y_shl16 (r_8 - (1 : Int32)) (by omega) (by omega)
                refine y_some ?_
                try dsimp only
                (first | (exact Or.inl ⟨by omega, by omega⟩) | (exact Or.inr (Or.inr ⟨by omega, by omega, by unfold y_Mn; omega⟩)) | (exact Or.inr (Or.inl ⟨by omega, by omega, y_Cm_c ‹y_Cm _ _ _ _› (by omega) (by omega) (by omega)⟩)) | (exfalso; omega) | with_reducible assumption | omega)
              · skip
                try have e47 := @y_subL r_8 (1 : Int32) (1) rfl (by omega) (by omega)
                try have e48 := @y_subL r_7 (1 : Int32) (1) rfl (by omega) (by omega)
                have c43' := c43
                rw [Int32.le_iff_toInt_le] at c43'
                try have e49 := @y_shl16 (r_7 - (1 : Int32)) (by omega) (by omega)
                refine y_some ?_
                try dsimp only
                (first | (exact Or.inl ⟨by omega, by omega⟩) | (exact Or.inr (Or.inr ⟨by omega, by omega, by unfold y_Mn; omega⟩)) | (exact Or.inr (Or.inl ⟨by omega, by omega, y_Cm_c ‹y_Cm _ _ _ _› (by omega) (by omega) (by omega)⟩)) | (exfalso; omega) | with_reducible assumption | omega)
            · skip
              have c42' := c42
              rw [Int32.le_iff_toInt_le] at c42'
              refine y_if (fun c50 => ?_) (fun c50 => ?_)
              · skip
                try have e51 := @y_subL r_7 (1 : Int32) (1) rfl (by omega) (by omega)
                have c50' := c50
                rw [Int32.le_iff_toInt_le] at c50'
                try have e52 := @y_shl16 r_8 (by omega) (by omega)
                refine y_some ?_
                try dsimp only
                (first | (exact Or.inl ⟨by omega, by omega⟩) | (exact Or.inr (Or.inr ⟨by omega, by omega, by unfold y_Mn; omega⟩)) | (exact Or.inr (Or.inl ⟨by omega, by omega, y_Cm_c ‹y_Cm _ _ _ _› (by omega) (by omega) (by omega)⟩)) | (exfalso; omega) | with_reducible assumption | omega)
              · skip
                try have e53 := @y_subL r_7 (1 : Int32) (1) rfl (by omega) (by omega)
                have c50' := c50
                rw [Int32.le_iff_toInt_le] at c50'
                try have e54 := @y_shl16 (r_7 - (1 : Int32)) (by omega) (by omega)
                refine y_some ?_
                try dsimp only
                (first | (exact Or.inl ⟨by omega, by omega⟩) | (exact Or.inr (Or.inr ⟨by omega, by omega, by unfold y_Mn; omega⟩)) | (exact Or.inr (Or.inl ⟨by omega, by omega, y_Cm_c ‹y_Cm _ _ _ _› (by omega) (by omega) (by omega)⟩)) | (exfalso; omega) | with_reducible assumption | omega)
          · skip
            have e55 : (65528 : Int32).toInt = 65528 := rfl
            have c40' := c40
            rw [Int32.le_iff_toInt_le] at c40'
            refine y_if (fun c56 => ?_) (fun c56 => ?_)
            · skip
              have c56' := c56
              rw [Int32.le_iff_toInt_le] at c56'
              refine y_if (fun c57 => ?_) (fun c57 => ?_)
              · skip
                try have e58 := @y_subL r_8 (1 : Int32) (1) rfl (by omega) (by omega)
                have c57' := c57
                rw [Int32.le_iff_toInt_le] at c57'
                try have e59 := @y_shl16 (r_8 - (1 : Int32)) (by omega) (by omega)
                refine y_some ?_
                try dsimp only
                (first | (exact Or.inl ⟨by omega, by omega⟩) | (exact Or.inr (Or.inr ⟨by omega, by omega, by unfold y_Mn; omega⟩)) | (exact Or.inr (Or.inl ⟨by omega, by omega, y_Cm_c ‹y_Cm _ _ _ _› (by omega) (by omega) (by omega)⟩)) | (exfalso; omega) | with_reducible assumption | omega)
              · skip
                try have e60 := @y_subL r_8 (1 : Int32) (1) rfl (by omega) (by omega)
                have c57' := c57
                rw [Int32.le_iff_toInt_le] at c57'
                try have e61 := @y_shl16 r_7 (by omega) (by omega)
                refine y_some ?_
                try dsimp only
                (first | (exact Or.inl ⟨by omega, by omega⟩) | (exact Or.inr (Or.inr ⟨by omega, by omega, by unfold y_Mn; omega⟩)) | (exact Or.inr (Or.inl ⟨by omega, by omega, y_Cm_c ‹y_Cm _ _ _ _› (by omega) (by omega) (by omega)⟩)) | (exfalso; omega) | with_reducible assumption | omega)
            · skip
              have c56' := c56
              rw [Int32.le_iff_toInt_le] at c56'
              refine y_if (fun c62 => ?_) (fun c62 => ?_)
              · skip
                have c62' := c62
                rw [Int32.le_iff_toInt_le] at c62'
                try have e63 := @y_shl16 r_8 (by omega) (by omega)
                refine y_some ?_
                try dsimp only
                (first | (exact Or.inl ⟨by omega, by omega⟩) | (exact Or.inr (Or.inr ⟨by omega, by omega, by unfold y_Mn; omega⟩)) | (exact Or.inr (Or.inl ⟨by omega, by omega, y_Cm_c ‹y_Cm _ _ _ _› (by omega) (by omega) (by omega)⟩)) | (exfalso; omega) | with_reducible assumption | omega)
              · skip
                have c62' := c62
                rw [Int32.le_iff_toInt_le] at c62'
                try have e64 := @y_shl16 r_7 (by omega) (by omega)
                refine y_some ?_
                try dsimp only
                (first | (exact Or.inl ⟨by omega, by omega⟩) | (exact Or.inr (Or.inr ⟨by omega, by omega, by unfold y_Mn; omega⟩)) | (exact Or.inr (Or.inl ⟨by omega, by omega, y_Cm_c ‹y_Cm _ _ _ _› (by omega) (by omega) (by omega)⟩)) | (exfalso; omega) | with_reducible assumption | omega)
    · skip
      have c2' := c2
      rw [← Int32.toInt_inj] at c2'
      refine y_if (fun c65 => ?_) (fun c65 => ?_)
      · skip
        have e66 : (65528 : Int32).toInt = 65528 := rfl
        have e67 := y_and16 p1
        have c65' := c65
        rw [Int32.le_iff_toInt_le] at c65'
        refine y_if (fun c68 => ?_) (fun c68 => ?_)
        · skip
          have e69 := y_and16 p2
          have c68' := c68
          rw [Int32.le_iff_toInt_le] at c68'
          refine y_if (fun c70 => ?_) (fun c70 => ?_)
          · skip
            try have e71 := @y_subL r_8 (1 : Int32) (1) rfl (by omega) (by omega)
            try have e72 := @y_subL r_7 (1 : Int32) (1) rfl (by omega) (by omega)
            have c70' := c70
            rw [Int32.le_iff_toInt_le] at c70'
            try have e73 := @y_shl16 (r_8 - (1 : Int32)) (by omega) (by omega)
            refine y_some ?_
            try dsimp only
            (first | (exact Or.inl ⟨by omega, by omega⟩) | (exact Or.inr (Or.inr ⟨by omega, by omega, by unfold y_Mn; omega⟩)) | (exact Or.inr (Or.inl ⟨by omega, by omega, y_Cm_c ‹y_Cm _ _ _ _› (by omega) (by omega) (by omega)⟩)) | (exfalso; omega) | with_reducible assumption | omega)
          · skip
            try have e74 := @y_subL r_8 (1 : Int32) (1) rfl (by omega) (by omega)
            try have e75 := @y_subL r_7 (1 : Int32) (1) rfl (by omega) (by omega)
            have c70' := c70
            rw [Int32.le_iff_toInt_le] at c70'
            try have e76 := @y_shl16 (r_7 - (1 : Int32)) (by omega) (by omega)
            refine y_some ?_
            try dsimp only
            (first | (exact Or.inl ⟨by omega, by omega⟩) | (exact Or.inr (Or.inr ⟨by omega, by omega, by unfold y_Mn; omega⟩)) | (exact Or.inr (Or.inl ⟨by omega, by omega, y_Cm_c ‹y_Cm _ _ _ _› (by omega) (by omega) (by omega)⟩)) | (exfalso; omega) | with_reducible assumption | omega)
        · skip
          have e77 := y_and16 p2
          have c68' := c68
          rw [Int32.le_iff_toInt_le] at c68'
          refine y_if (fun c78 => ?_) (fun c78 => ?_)
          · skip
            try have e79 := @y_subL r_7 (1 : Int32) (1) rfl (by omega) (by omega)
            have c78' := c78
            rw [Int32.le_iff_toInt_le] at c78'
            try have e80 := @y_shl16 r_8 (by omega) (by omega)
            refine y_some ?_
            try dsimp only
            (first | (exact Or.inl ⟨by omega, by omega⟩) | (exact Or.inr (Or.inr ⟨by omega, by omega, by unfold y_Mn; omega⟩)) | (exact Or.inr (Or.inl ⟨by omega, by omega, y_Cm_c ‹y_Cm _ _ _ _› (by omega) (by omega) (by omega)⟩)) | (exfalso; omega) | with_reducible assumption | omega)
          · skip
            try have e81 := @y_subL r_7 (1 : Int32) (1) rfl (by omega) (by omega)
            have c78' := c78
            rw [Int32.le_iff_toInt_le] at c78'
            try have e82 := @y_shl16 (r_7 - (1 : Int32)) (by omega) (by omega)
            refine y_some ?_
            try dsimp only
            (first | (exact Or.inl ⟨by omega, by omega⟩) | (exact Or.inr (Or.inr ⟨by omega, by omega, by unfold y_Mn; omega⟩)) | (exact Or.inr (Or.inl ⟨by omega, by omega, y_Cm_c ‹y_Cm _ _ _ _› (by omega) (by omega) (by omega)⟩)) | (exfalso; omega) | with_reducible assumption | omega)
      · skip
        have e83 : (65528 : Int32).toInt = 65528 := rfl
        have e84 := y_and16 p1
        have c65' := c65
        rw [Int32.le_iff_toInt_le] at c65'
        refine y_if (fun c85 => ?_) (fun c85 => ?_)
        · skip
          have e86 := y_and16 p2
          have c85' := c85
          rw [Int32.le_iff_toInt_le] at c85'
          refine y_if (fun c87 => ?_) (fun c87 => ?_)
          · skip
            try have e88 := @y_subL r_8 (1 : Int32) (1) rfl (by omega) (by omega)
            have c87' := c87
            rw [Int32.le_iff_toInt_le] at c87'
            try have e89 := @y_shl16 (r_8 - (1 : Int32)) (by omega) (by omega)
            refine y_some ?_
            try dsimp only
            (first | (exact Or.inl ⟨by omega, by omega⟩) | (exact Or.inr (Or.inr ⟨by omega, by omega, by unfold y_Mn; omega⟩)) | (exact Or.inr (Or.inl ⟨by omega, by omega, y_Cm_c ‹y_Cm _ _ _ _› (by omega) (by omega) (by omega)⟩)) | (exfalso; omega) | with_reducible assumption | omega)
          · skip
            try have e90 := @y_subL r_8 (1 : Int32) (1) rfl (by omega) (by omega)
            have c87' := c87
            rw [Int32.le_iff_toInt_le] at c87'
            try have e91 := @y_shl16 r_7 (by omega) (by omega)
            refine y_some ?_
            try dsimp only
            (first | (exact Or.inl ⟨by omega, by omega⟩) | (exact Or.inr (Or.inr ⟨by omega, by omega, by unfold y_Mn; omega⟩)) | (exact Or.inr (Or.inl ⟨by omega, by omega, y_Cm_c ‹y_Cm _ _ _ _› (by omega) (by omega) (by omega)⟩)) | (exfalso; omega) | with_reducible assumption | omega)
        · skip
          have e92 := y_and16 p2
          have c85' := c85
          rw [Int32.le_iff_toInt_le] at c85'
          refine y_if (fun c93 => ?_) (fun c93 => ?_)
          · skip
            have c93' := c93
            rw [Int32.le_iff_toInt_le] at c93'
            try have e94 := @y_shl16 r_8 (by omega) (by omega)
            refine y_some ?_
            try dsimp only
            (first | (exact Or.inl ⟨by omega, by omega⟩) | (exact Or.inr (Or.inr ⟨by omega, by omega, by unfold y_Mn; omega⟩)) | (exact Or.inr (Or.inl ⟨by omega, by omega, y_Cm_c ‹y_Cm _ _ _ _› (by omega) (by omega) (by omega)⟩)) | (exfalso; omega) | with_reducible assumption | omega)
          · skip
            have c93' := c93
            rw [Int32.le_iff_toInt_le] at c93'
            try have e95 := @y_shl16 r_7 (by omega) (by omega)
            refine y_some ?_
            try dsimp only
            (first | (exact Or.inl ⟨by omega, by omega⟩) | (exact Or.inr (Or.inr ⟨by omega, by omega, by unfold y_Mn; omega⟩)) | (exact Or.inr (Or.inl ⟨by omega, by omega, y_Cm_c ‹y_Cm _ _ _ _› (by omega) (by omega) (by omega)⟩)) | (exfalso; omega) | with_reducible assumption | omega)
set_option maxHeartbeats 4000000 in
theorem ye_X9_shared_0_L_0_i {g9_4 : Nat → Int32} {g9_5 : Nat → Int32} {l6 : Int32} (hU : y_Up g9_4) (k1 : 0 ≤ l6.toInt) (k2 : l6.toInt < 200) : ∀ (m : Nat) {l7 : Int32}, (0 ≤ l7.toInt) → (l7.toInt < 200) → l7.toInt < m → y_Ok (f_X9_shared_0_L g9_4 g9_5 l6 (0, l7)) (fun r => (y_Cm g9_4 l7.toInt l6.toInt r.toInt) ∧ (0 ≤ r.toInt) ∧ (r.toInt ≤ l7.toInt)) := by
  intro m
  induction m with
  | zero => intro l7 k3 k4 hm; exfalso; omega
  | succ m ih =>
    intro l7 k3 k4 hm
    rw [f_X9_shared_0_L]
    refine y_ip rfl ?_
    refine y_bi (ye_X9_below (by first | (exact y_Cm_h hU (by omega) (by omega) (by with_reducible assumption)) | (exact y_Cm_n (k := (Int32.toNatClampNeg l7)) hU (by omega) (by omega) (by with_reducible assumption) ‹y_Cm _ _ _ _›) | with_reducible assumption | omega | (exfalso; omega)) (by omega) (by omega) (by omega)) (fun r_1 h_r_1 => ?_)
    have h0_r_1 : (r_1.toInt = 0 ∧ ¬ (y_B g9_4 l7.toInt l6.toInt)) ∨ (r_1.toInt = 1 ∧ (y_B g9_4 l7.toInt l6.toInt)) := h_r_1
    refine y_if (fun c1 => ?_) (fun c1 => ?_)
    · skip
      have e2 : (0 : Int32).toInt = 0 := rfl
      have c1' := c1
      rw [← Int32.toInt_inj] at c1'
      have e3 := y_or0 h0_r_1 c1'
      clear h0_r_1
      have hl0 : ¬ l7.toInt = 0 := fun hz => absurd (y_B0 (x := l6.toInt) hU (by omega) (by omega)) (by rw [← hz]; with_reducible assumption)
      have hclv := @y_cl l7 (by omega)
      have hupk := hU.2 (Int32.toNatClampNeg l7) (by omega) (by omega)
      refine y_gd (y_gdI (by omega) (by omega)) ?_
      try have e4 := @y_cl l7 (by omega)
      try have e5 := hU.at (Int32.toNatClampNeg l7) (by omega)
      refine y_Ok.mono (ih (l7 := (g9_4 (Int32.toNatClampNeg l7))) (by omega) (by omega) (by omega)) (fun r_t5 h_r_t5 => ?_)
      obtain ⟨h0_r_t5, h1_r_t5, h2_r_t5⟩ := h_r_t5
      refine ⟨?_, ?_, ?_⟩ <;> (first | (exact y_Cm_h hU (by omega) (by omega) (by with_reducible assumption)) | (exact y_Cm_n (k := (Int32.toNatClampNeg l7)) hU (by omega) (by omega) (by with_reducible assumption) ‹y_Cm _ _ _ _›) | with_reducible assumption | omega | (exfalso; omega))
    · skip
      have e7 : (0 : Int32).toInt = 0 := rfl
      have c1' := c1
      rw [← Int32.toInt_inj] at c1'
      have e8 := y_or1 h0_r_1 c1'
      clear h0_r_1
      refine y_some ?_
      try dsimp only
      refine ⟨?_, ?_, ?_⟩ <;> (first | (exact y_Cm_h hU (by omega) (by omega) (by with_reducible assumption)) | (exact y_Cm_n (k := (Int32.toNatClampNeg l7)) hU (by omega) (by omega) (by with_reducible assumption) ‹y_Cm _ _ _ _›) | with_reducible assumption | omega | (exfalso; omega))
theorem ye_X9_shared_0_L_0 {g9_4 : Nat → Int32} {g9_5 : Nat → Int32} {l6 : Int32} {l7 : Int32} (hU : y_Up g9_4) (k1 : 0 ≤ l6.toInt) (k2 : l6.toInt < 200) (k3 : 0 ≤ l7.toInt) (k4 : l7.toInt < 200) : y_Ok (f_X9_shared_0_L g9_4 g9_5 l6 (0, l7)) (fun r => (y_Cm g9_4 l7.toInt l6.toInt r.toInt) ∧ (0 ≤ r.toInt) ∧ (r.toInt ≤ l7.toInt)) := ye_X9_shared_0_L_0_i hU k1 k2 (l7.toInt + 1).toNat k3 k4 (by omega)
set_option maxHeartbeats 4000000 in
theorem ye_X9_shared_0 {g9_4 : Nat → Int32} {g9_5 : Nat → Int32} {p1 : Int32} {p2 : Int32} {v : Int} (k0 : 4 ≤ v) (k1 : v ≤ 200) (hU : y_Up g9_4) (hF : y_Fa v g9_4 g9_5) (k4 : 0 ≤ p1.toInt) (k5 : p1.toInt < v) (k6 : 0 ≤ p2.toInt) (k7 : p2.toInt < v) : y_Ok (f_X9_shared_0 g9_4 g9_5 p1 p2) (fun r => (y_Cm g9_4 p1.toInt p2.toInt r.toInt) ∧ (0 ≤ r.toInt) ∧ (r.toInt ≤ p1.toInt)) := by
  have hax := y_and16 p1
  have hay := y_and16 p2
  have hcx := @y_cl (p1 &&& 65535) (by omega)
  have hcy := @y_cl (p2 &&& 65535) (by omega)
  unfold f_X9_shared_0
  refine y_if (fun c1 => ?_) (fun c1 => ?_)
  · skip
    have c1' := c1
    rw [← Int32.toInt_inj] at c1'
    refine y_some ?_
    try dsimp only
    refine ⟨?_, ?_, ?_⟩ <;> (first | (exact y_Cm_c (y_Cm_e (x := p1.toInt) hU (by omega) (by omega)) (by omega) (by omega) (by omega)) | (exact y_Cm_c ‹y_Cm _ _ _ _› (by omega) (by omega) (by omega)) | (exact y_Cm_c (y_Cm_f (kx := Int32.toNatClampNeg (p1 &&& 65535)) (x := (p1 &&& 65535).toInt) (y := (p2 &&& 65535).toInt) hU hF (by omega) (by omega) (by omega) (by omega) (by omega) (by omega)) (by omega) (by omega) (by omega)) | (exact y_Cm_c (y_Cm_s (y_Cm_f (kx := Int32.toNatClampNeg (p2 &&& 65535)) (x := (p2 &&& 65535).toInt) (y := (p1 &&& 65535).toInt) hU hF (by omega) (by omega) (by omega) (by omega) (by omega) (by omega))) (by omega) (by omega) (by omega)) | (exfalso; omega) | with_reducible assumption | omega)
  · skip
    have c1' := c1
    rw [← Int32.toInt_inj] at c1'
    refine y_if (fun c2 => ?_) (fun c2 => ?_)
    · skip
      have e3 := y_sar16 p1
      have e4 : (0 : Int32).toInt = 0 := rfl
      have c2' := c2
      rw [← Int32.toInt_inj] at c2'
      refine y_if (fun c5 => ?_) (fun c5 => ?_)
      · skip
        have e6 := y_sar16 p2
        have c5' := c5
        rw [← Int32.toInt_inj] at c5'
        have e7 := y_and16 p1
        refine y_gd (y_gdI (by omega) (by omega)) ?_
        refine y_if (fun c8 => ?_) (fun c8 => ?_)
        · skip
          try have e9 := @y_cl (p1 &&& (65535 : Int32)) (by omega)
          have c8' := c8
          rw [← Int32.toInt_inj] at c8'
          have e10 := y_and16 p2
          refine y_gd (y_gdI (by omega) (by omega)) ?_
          refine y_if (fun c11 => ?_) (fun c11 => ?_)
          · skip
            try have e12 := @y_cl (p2 &&& (65535 : Int32)) (by omega)
            have c11' := c11
            rw [← Int32.toInt_inj] at c11'
            refine y_Ok.mono (ye_X9_shared_0_L_0 (l7 := (p1 &&& 65535)) (by first | (exact y_Cm_c (y_Cm_e (x := p1.toInt) hU (by omega) (by omega)) (by omega) (by omega) (by omega)) | (exact y_Cm_c ‹y_Cm _ _ _ _› (by omega) (by omega) (by omega)) | (exact y_Cm_c (y_Cm_f (kx := Int32.toNatClampNeg (p1 &&& 65535)) (x := (p1 &&& 65535).toInt) (y := (p2 &&& 65535).toInt) hU hF (by omega) (by omega) (by omega) (by omega) (by omega) (by omega)) (by omega) (by omega) (by omega)) | (exact y_Cm_c (y_Cm_s (y_Cm_f (kx := Int32.toNatClampNeg (p2 &&& 65535)) (x := (p2 &&& 65535).toInt) (y := (p1 &&& 65535).toInt) hU hF (by omega) (by omega) (by omega) (by omega) (by omega) (by omega))) (by omega) (by omega) (by omega)) | (exfalso; omega) | with_reducible assumption | omega) (by omega) (by omega) (by omega) (by omega)) (fun r_t12 h_r_t12 => ?_)
            obtain ⟨h0_r_t12, h1_r_t12, h2_r_t12⟩ := h_r_t12
            refine ⟨?_, ?_, ?_⟩ <;> (first | (exact y_Cm_c (y_Cm_e (x := p1.toInt) hU (by omega) (by omega)) (by omega) (by omega) (by omega)) | (exact y_Cm_c ‹y_Cm _ _ _ _› (by omega) (by omega) (by omega)) | (exact y_Cm_c (y_Cm_f (kx := Int32.toNatClampNeg (p1 &&& 65535)) (x := (p1 &&& 65535).toInt) (y := (p2 &&& 65535).toInt) hU hF (by omega) (by omega) (by omega) (by omega) (by omega) (by omega)) (by omega) (by omega) (by omega)) | (exact y_Cm_c (y_Cm_s (y_Cm_f (kx := Int32.toNatClampNeg (p2 &&& 65535)) (x := (p2 &&& 65535).toInt) (y := (p1 &&& 65535).toInt) hU hF (by omega) (by omega) (by omega) (by omega) (by omega) (by omega))) (by omega) (by omega) (by omega)) | (exfalso; omega) | with_reducible assumption | omega)
          · skip
            try have e14 := @y_cl (p2 &&& (65535 : Int32)) (by omega)
            have c11' := c11
            rw [← Int32.toInt_inj] at c11'
            refine y_some ?_
            try dsimp only
            refine ⟨?_, ?_, ?_⟩ <;> (first | (exact y_Cm_c (y_Cm_e (x := p1.toInt) hU (by omega) (by omega)) (by omega) (by omega) (by omega)) | (exact y_Cm_c ‹y_Cm _ _ _ _› (by omega) (by omega) (by omega)) | (exact y_Cm_c (y_Cm_f (kx := Int32.toNatClampNeg (p1 &&& 65535)) (x := (p1 &&& 65535).toInt) (y := (p2 &&& 65535).toInt) hU hF (by omega) (by omega) (by omega) (by omega) (by omega) (by omega)) (by omega) (by omega) (by omega)) | (exact y_Cm_c (y_Cm_s (y_Cm_f (kx := Int32.toNatClampNeg (p2 &&& 65535)) (x := (p2 &&& 65535).toInt) (y := (p1 &&& 65535).toInt) hU hF (by omega) (by omega) (by omega) (by omega) (by omega) (by omega))) (by omega) (by omega) (by omega)) | (exfalso; omega) | with_reducible assumption | omega)
        · skip
          try have e15 := @y_cl (p1 &&& (65535 : Int32)) (by omega)
          have c8' := c8
          rw [← Int32.toInt_inj] at c8'
          refine y_some ?_
          try dsimp only
          refine ⟨?_, ?_, ?_⟩ <;> (first | (exact y_Cm_c (y_Cm_e (x := p1.toInt) hU (by omega) (by omega)) (by omega) (by omega) (by omega)) | (exact y_Cm_c ‹y_Cm _ _ _ _› (by omega) (by omega) (by omega)) | (exact y_Cm_c (y_Cm_f (kx := Int32.toNatClampNeg (p1 &&& 65535)) (x := (p1 &&& 65535).toInt) (y := (p2 &&& 65535).toInt) hU hF (by omega) (by omega) (by omega) (by omega) (by omega) (by omega)) (by omega) (by omega) (by omega)) | (exact y_Cm_c (y_Cm_s (y_Cm_f (kx := Int32.toNatClampNeg (p2 &&& 65535)) (x := (p2 &&& 65535).toInt) (y := (p1 &&& 65535).toInt) hU hF (by omega) (by omega) (by omega) (by omega) (by omega) (by omega))) (by omega) (by omega) (by omega)) | (exfalso; omega) | with_reducible assumption | omega)
      · skip
        have e16 := y_sar16 p2
        have c5' := c5
        rw [← Int32.toInt_inj] at c5'
        refine y_if (fun c17 => ?_) (fun c17 => ?_)
        · skip
          have c17' := c17
          rw [← Int32.toInt_inj] at c17'
          refine y_some ?_
          try dsimp only
          refine ⟨?_, ?_, ?_⟩ <;> (first | (exact y_Cm_c (y_Cm_e (x := p1.toInt) hU (by omega) (by omega)) (by omega) (by omega) (by omega)) | (exact y_Cm_c ‹y_Cm _ _ _ _› (by omega) (by omega) (by omega)) | (exact y_Cm_c (y_Cm_f (kx := Int32.toNatClampNeg (p1 &&& 65535)) (x := (p1 &&& 65535).toInt) (y := (p2 &&& 65535).toInt) hU hF (by omega) (by omega) (by omega) (by omega) (by omega) (by omega)) (by omega) (by omega) (by omega)) | (exact y_Cm_c (y_Cm_s (y_Cm_f (kx := Int32.toNatClampNeg (p2 &&& 65535)) (x := (p2 &&& 65535).toInt) (y := (p1 &&& 65535).toInt) hU hF (by omega) (by omega) (by omega) (by omega) (by omega) (by omega))) (by omega) (by omega) (by omega)) | (exfalso; omega) | with_reducible assumption | omega)
        · skip
          have c17' := c17
          rw [← Int32.toInt_inj] at c17'
          refine y_if (fun c18 => ?_) (fun c18 => ?_)
          · skip
            have c18' := c18
            rw [← Int32.toInt_inj] at c18'
            refine y_some ?_
            try dsimp only
            refine ⟨?_, ?_, ?_⟩ <;> (first | (exact y_Cm_c (y_Cm_e (x := p1.toInt) hU (by omega) (by omega)) (by omega) (by omega) (by omega)) | (exact y_Cm_c ‹y_Cm _ _ _ _› (by omega) (by omega) (by omega)) | (exact y_Cm_c (y_Cm_f (kx := Int32.toNatClampNeg (p1 &&& 65535)) (x := (p1 &&& 65535).toInt) (y := (p2 &&& 65535).toInt) hU hF (by omega) (by omega) (by omega) (by omega) (by omega) (by omega)) (by omega) (by omega) (by omega)) | (exact y_Cm_c (y_Cm_s (y_Cm_f (kx := Int32.toNatClampNeg (p2 &&& 65535)) (x := (p2 &&& 65535).toInt) (y := (p1 &&& 65535).toInt) hU hF (by omega) (by omega) (by omega) (by omega) (by omega) (by omega))) (by omega) (by omega) (by omega)) | (exfalso; omega) | with_reducible assumption | omega)
          · skip
            have c18' := c18
            rw [← Int32.toInt_inj] at c18'
            refine y_if (fun c19 => ?_) (fun c19 => ?_)
            · skip
              have c19' := c19
              rw [← Int32.toInt_inj] at c19'
              refine y_if (fun c20 => ?_) (fun c20 => ?_)
              · skip
                have e21 : (65528 : Int32).toInt = 65528 := rfl
                have e22 := y_and16 p1
                have c20' := c20
                rw [Int32.le_iff_toInt_le] at c20'
                refine y_if (fun c23 => ?_) (fun c23 => ?_)
                · skip
                  have c23' := c23
                  rw [Int32.lt_iff_toInt_lt] at c23'
                  refine y_if (fun c24 => ?_) (fun c24 => ?_)
                  · skip
                    have e25 := y_and16 p2
                    have c24' := c24
                    rw [Int32.lt_iff_toInt_lt] at c24'
                    have e26 : (65536 : Int32).toInt = 65536 := rfl
                    try have e27 := @y_min (p2 >>> (16 &&& 31)) (p1 >>> (16 &&& 31))
                    try have e28 := @y_mulL (65536 : Int32) (if ((p2 >>> (16 &&& 31)) < (p1 >>> (16 &&& 31))) then (p2 >>> (16 &&& 31)) else (p1 >>> (16 &&& 31))) 65536 rfl (by omega) (by omega)
                    refine y_some ?_
                    try dsimp only
                    refine ⟨?_, ?_, ?_⟩ <;> (first | (exact y_Cm_c (y_Cm_e (x := p1.toInt) hU (by omega) (by omega)) (by omega) (by omega) (by omega)) | (exact y_Cm_c ‹y_Cm _ _ _ _› (by omega) (by omega) (by omega)) | (exact y_Cm_c (y_Cm_f (kx := Int32.toNatClampNeg (p1 &&& 65535)) (x := (p1 &&& 65535).toInt) (y := (p2 &&& 65535).toInt) hU hF (by omega) (by omega) (by omega) (by omega) (by omega) (by omega)) (by omega) (by omega) (by omega)) | (exact y_Cm_c (y_Cm_s (y_Cm_f (kx := Int32.toNatClampNeg (p2 &&& 65535)) (x := (p2 &&& 65535).toInt) (y := (p1 &&& 65535).toInt) hU hF (by omega) (by omega) (by omega) (by omega) (by omega) (by omega))) (by omega) (by omega) (by omega)) | (exfalso; omega) | with_reducible assumption | omega)
                  · skip
                    have e29 := y_and16 p2
                    have c24' := c24
                    rw [Int32.lt_iff_toInt_lt] at c24'
                    have e30 : (65536 : Int32).toInt = 65536 := rfl
                    try have e31 := @y_subL (p2 >>> (16 &&& 31)) (1 : Int32) (1) rfl (by omega) (by omega)
                    try have e32 := @y_min ((p2 >>> (16 &&& 31)) - (1 : Int32)) (p1 >>> (16 &&& 31))
                    try have e33 := @y_mulL (65536 : Int32) (if (((p2 >>> (16 &&& 31)) - (1 : Int32)) < (p1 >>> (16 &&& 31))) then ((p2 >>> (16 &&& 31)) - (1 : Int32)) else (p1 >>> (16 &&& 31))) 65536 rfl (by omega) (by omega)
                    refine y_some ?_
                    try dsimp only
                    refine ⟨?_, ?_, ?_⟩ <;> (first | (exact y_Cm_c (y_Cm_e (x := p1.toInt) hU (by omega) (by omega)) (by omega) (by omega) (by omega)) | (exact y_Cm_c ‹y_Cm _ _ _ _› (by omega) (by omega) (by omega)) | (exact y_Cm_c (y_Cm_f (kx := Int32.toNatClampNeg (p1 &&& 65535)) (x := (p1 &&& 65535).toInt) (y := (p2 &&& 65535).toInt) hU hF (by omega) (by omega) (by omega) (by omega) (by omega) (by omega)) (by omega) (by omega) (by omega)) | (exact y_Cm_c (y_Cm_s (y_Cm_f (kx := Int32.toNatClampNeg (p2 &&& 65535)) (x := (p2 &&& 65535).toInt) (y := (p1 &&& 65535).toInt) hU hF (by omega) (by omega) (by omega) (by omega) (by omega) (by omega))) (by omega) (by omega) (by omega)) | (exfalso; omega) | with_reducible assumption | omega)
                · skip
                  have c23' := c23
                  rw [Int32.lt_iff_toInt_lt] at c23'
                  refine y_if (fun c34 => ?_) (fun c34 => ?_)
                  · skip
                    have e35 := y_and16 p2
                    have c34' := c34
                    rw [Int32.lt_iff_toInt_lt] at c34'
                    have e36 : (65536 : Int32).toInt = 65536 := rfl
                    try have e37 := @y_subL (p1 >>> (16 &&& 31)) (1 : Int32) (1) rfl (by omega) (by omega)
                    try have e38 := @y_min (p2 >>> (16 &&& 31)) ((p1 >>> (16 &&& 31)) - (1 : Int32))
                    try have e39 := @y_mulL (65536 : Int32) (if ((p2 >>> (16 &&& 31)) < ((p1 >>> (16 &&& 31)) - (1 : Int32))) then (p2 >>> (16 &&& 31)) else ((p1 >>> (16 &&& 31)) - (1 : Int32))) 65536 rfl (by omega) (by omega)
                    refine y_some ?_
                    try dsimp only
                    refine ⟨?_, ?_, ?_⟩ <;> (first | (exact y_Cm_c (y_Cm_e (x := p1.toInt) hU (by omega) (by omega)) (by omega) (by omega) (by omega)) | (exact y_Cm_c ‹y_Cm _ _ _ _› (by omega) (by omega) (by omega)) | (exact y_Cm_c (y_Cm_f (kx := Int32.toNatClampNeg (p1 &&& 65535)) (x := (p1 &&& 65535).toInt) (y := (p2 &&& 65535).toInt) hU hF (by omega) (by omega) (by omega) (by omega) (by omega) (by omega)) (by omega) (by omega) (by omega)) | (exact y_Cm_c (y_Cm_s (y_Cm_f (kx := Int32.toNatClampNeg (p2 &&& 65535)) (x := (p2 &&& 65535).toInt) (y := (p1 &&& 65535).toInt) hU hF (by omega) (by omega) (by omega) (by omega) (by omega) (by omega))) (by omega) (by omega) (by omega)) | (exfalso; omega) | with_reducible assumption | omega)
                  · skip
                    have e40 := y_and16 p2
                    have c34' := c34
                    rw [Int32.lt_iff_toInt_lt] at c34'
                    have e41 : (65536 : Int32).toInt = 65536 := rfl
                    try have e42 := @y_subL (p2 >>> (16 &&& 31)) (1 : Int32) (1) rfl (by omega) (by omega)
                    try have e43 := @y_subL (p1 >>> (16 &&& 31)) (1 : Int32) (1) rfl (by omega) (by omega)
                    try have e44 := @y_min ((p2 >>> (16 &&& 31)) - (1 : Int32)) ((p1 >>> (16 &&& 31)) - (1 : Int32))
                    try have e45 := @y_mulL (65536 : Int32) (if (((p2 >>> (16 &&& 31)) - (1 : Int32)) < ((p1 >>> (16 &&& 31)) - (1 : Int32))) then ((p2 >>> (16 &&& 31)) - (1 : Int32)) else ((p1 >>> (16 &&& 31)) - (1 : Int32))) 65536 rfl (by omega) (by omega)
                    refine y_some ?_
                    try dsimp only
                    refine ⟨?_, ?_, ?_⟩ <;> (first | (exact y_Cm_c (y_Cm_e (x := p1.toInt) hU (by omega) (by omega)) (by omega) (by omega) (by omega)) | (exact y_Cm_c ‹y_Cm _ _ _ _› (by omega) (by omega) (by omega)) | (exact y_Cm_c (y_Cm_f (kx := Int32.toNatClampNeg (p1 &&& 65535)) (x := (p1 &&& 65535).toInt) (y := (p2 &&& 65535).toInt) hU hF (by omega) (by omega) (by omega) (by omega) (by omega) (by omega)) (by omega) (by omega) (by omega)) | (exact y_Cm_c (y_Cm_s (y_Cm_f (kx := Int32.toNatClampNeg (p2 &&& 65535)) (x := (p2 &&& 65535).toInt) (y := (p1 &&& 65535).toInt) hU hF (by omega) (by omega) (by omega) (by omega) (by omega) (by omega))) (by omega) (by omega) (by omega)) | (exfalso; omega) | with_reducible assumption | omega)
              · skip
                have e46 : (65528 : Int32).toInt = 65528 := rfl
                have e47 := y_and16 p1
                have c20' := c20
                rw [Int32.le_iff_toInt_le] at c20'
                refine y_if (fun c48 => ?_) (fun c48 => ?_)
                · skip
                  have e49 := y_and16 p2
                  have c48' := c48
                  rw [Int32.le_iff_toInt_le] at c48'
                  refine y_if (fun c50 => ?_) (fun c50 => ?_)
                  · skip
                    have c50' := c50
                    rw [Int32.lt_iff_toInt_lt] at c50'
                    refine y_if (fun c51 => ?_) (fun c51 => ?_)
                    · skip
                      have c51' := c51
                      rw [Int32.lt_iff_toInt_lt] at c51'
                      have e52 : (65536 : Int32).toInt = 65536 := rfl
                      try have e53 := @y_min (p2 >>> (16 &&& 31)) (p1 >>> (16 &&& 31))
                      try have e54 := @y_mulL (65536 : Int32) (if ((p2 >>> (16 &&& 31)) < (p1 >>> (16 &&& 31))) then (p2 >>> (16 &&& 31)) else (p1 >>> (16 &&& 31))) 65536 rfl (by omega) (by omega)
                      refine y_some ?_
                      try dsimp only
                      refine ⟨?_, ?_, ?_⟩ <;> (first | (exact y_Cm_c (y_Cm_e (x := p1.toInt) hU (by omega) (by omega)) (by omega) (by omega) (by omega)) | (exact y_Cm_c ‹y_Cm _ _ _ _› (by omega) (by omega) (by omega)) | (exact y_Cm_c (y_Cm_f (kx := Int32.toNatClampNeg (p1 &&& 65535)) (x := (p1 &&& 65535).toInt) (y := (p2 &&& 65535).toInt) hU hF (by omega) (by omega) (by omega) (by omega) (by omega) (by omega)) (by omega) (by omega) (by omega)) | (exact y_Cm_c (y_Cm_s (y_Cm_f (kx := Int32.toNatClampNeg (p2 &&& 65535)) (x := (p2 &&& 65535).toInt) (y := (p1 &&& 65535).toInt) hU hF (by omega) (by omega) (by omega) (by omega) (by omega) (by omega))) (by omega) (by omega) (by omega)) | (exfalso; omega) | with_reducible assumption | omega)
                    · skip
                      have c51' := c51
                      rw [Int32.lt_iff_toInt_lt] at c51'
                      have e55 : (65536 : Int32).toInt = 65536 := rfl
                      try have e56 := @y_subL (p2 >>> (16 &&& 31)) (1 : Int32) (1) rfl (by omega) (by omega)
                      try have e57 := @y_min ((p2 >>> (16 &&& 31)) - (1 : Int32)) (p1 >>> (16 &&& 31))
                      try have e58 := @y_mulL (65536 : Int32) (if (((p2 >>> (16 &&& 31)) - (1 : Int32)) < (p1 >>> (16 &&& 31))) then ((p2 >>> (16 &&& 31)) - (1 : Int32)) else (p1 >>> (16 &&& 31))) 65536 rfl (by omega) (by omega)
                      refine y_some ?_
                      try dsimp only
                      refine ⟨?_, ?_, ?_⟩ <;> (first | (exact y_Cm_c (y_Cm_e (x := p1.toInt) hU (by omega) (by omega)) (by omega) (by omega) (by omega)) | (exact y_Cm_c ‹y_Cm _ _ _ _› (by omega) (by omega) (by omega)) | (exact y_Cm_c (y_Cm_f (kx := Int32.toNatClampNeg (p1 &&& 65535)) (x := (p1 &&& 65535).toInt) (y := (p2 &&& 65535).toInt) hU hF (by omega) (by omega) (by omega) (by omega) (by omega) (by omega)) (by omega) (by omega) (by omega)) | (exact y_Cm_c (y_Cm_s (y_Cm_f (kx := Int32.toNatClampNeg (p2 &&& 65535)) (x := (p2 &&& 65535).toInt) (y := (p1 &&& 65535).toInt) hU hF (by omega) (by omega) (by omega) (by omega) (by omega) (by omega))) (by omega) (by omega) (by omega)) | (exfalso; omega) | with_reducible assumption | omega)
                  · skip
                    have c50' := c50
                    rw [Int32.lt_iff_toInt_lt] at c50'
                    refine y_if (fun c59 => ?_) (fun c59 => ?_)
                    · skip
                      have c59' := c59
                      rw [Int32.lt_iff_toInt_lt] at c59'
                      have e60 : (65536 : Int32).toInt = 65536 := rfl
                      try have e61 := @y_subL (p1 >>> (16 &&& 31)) (1 : Int32) (1) rfl (by omega) (by omega)
                      try have e62 := @y_min (p2 >>> (16 &&& 31)) ((p1 >>> (16 &&& 31)) - (1 : Int32))
                      try have e63 := @y_mulL (65536 : Int32) (if ((p2 >>> (16 &&& 31)) < ((p1 >>> (16 &&& 31)) - (1 : Int32))) then (p2 >>> (16 &&& 31)) else ((p1 >>> (16 &&& 31)) - (1 : Int32))) 65536 rfl (by omega) (by omega)
                      refine y_some ?_
                      try dsimp only
                      refine ⟨?_, ?_, ?_⟩ <;> (first | (exact y_Cm_c (y_Cm_e (x := p1.toInt) hU (by omega) (by omega)) (by omega) (by omega) (by omega)) | (exact y_Cm_c ‹y_Cm _ _ _ _› (by omega) (by omega) (by omega)) | (exact y_Cm_c (y_Cm_f (kx := Int32.toNatClampNeg (p1 &&& 65535)) (x := (p1 &&& 65535).toInt) (y := (p2 &&& 65535).toInt) hU hF (by omega) (by omega) (by omega) (by omega) (by omega) (by omega)) (by omega) (by omega) (by omega)) | (exact y_Cm_c (y_Cm_s (y_Cm_f (kx := Int32.toNatClampNeg (p2 &&& 65535)) (x := (p2 &&& 65535).toInt) (y := (p1 &&& 65535).toInt) hU hF (by omega) (by omega) (by omega) (by omega) (by omega) (by omega))) (by omega) (by omega) (by omega)) | (exfalso; omega) | with_reducible assumption | omega)
                    · skip
                      have c59' := c59
                      rw [Int32.lt_iff_toInt_lt] at c59'
                      have e64 : (65536 : Int32).toInt = 65536 := rfl
                      try have e65 := @y_subL (p2 >>> (16 &&& 31)) (1 : Int32) (1) rfl (by omega) (by omega)
                      try have e66 := @y_subL (p1 >>> (16 &&& 31)) (1 : Int32) (1) rfl (by omega) (by omega)
                      try have e67 := @y_min ((p2 >>> (16 &&& 31)) - (1 : Int32)) ((p1 >>> (16 &&& 31)) - (1 : Int32))
                      try have e68 := @y_mulL (65536 : Int32) (if (((p2 >>> (16 &&& 31)) - (1 : Int32)) < ((p1 >>> (16 &&& 31)) - (1 : Int32))) then ((p2 >>> (16 &&& 31)) - (1 : Int32)) else ((p1 >>> (16 &&& 31)) - (1 : Int32))) 65536 rfl (by omega) (by omega)
                      refine y_some ?_
                      try dsimp only
                      refine ⟨?_, ?_, ?_⟩ <;> (first | (exact y_Cm_c (y_Cm_e (x := p1.toInt) hU (by omega) (by omega)) (by omega) (by omega) (by omega)) | (exact y_Cm_c ‹y_Cm _ _ _ _› (by omega) (by omega) (by omega)) | (exact y_Cm_c (y_Cm_f (kx := Int32.toNatClampNeg (p1 &&& 65535)) (x := (p1 &&& 65535).toInt) (y := (p2 &&& 65535).toInt) hU hF (by omega) (by omega) (by omega) (by omega) (by omega) (by omega)) (by omega) (by omega) (by omega)) | (exact y_Cm_c (y_Cm_s (y_Cm_f (kx := Int32.toNatClampNeg (p2 &&& 65535)) (x := (p2 &&& 65535).toInt) (y := (p1 &&& 65535).toInt) hU hF (by omega) (by omega) (by omega) (by omega) (by omega) (by omega))) (by omega) (by omega) (by omega)) | (exfalso; omega) | with_reducible assumption | omega)
                · skip
                  have e69 := y_and16 p2
                  have c48' := c48
                  rw [Int32.le_iff_toInt_le] at c48'
                  exfalso; omega
            · skip
              have c19' := c19
              rw [← Int32.toInt_inj] at c19'
              refine y_if (fun c70 => ?_) (fun c70 => ?_)
              · skip
                have e71 := y_and16 p1
                have e72 : (65528 : Int32).toInt = 65528 := rfl
                have c70' := c70
                rw [Int32.lt_iff_toInt_lt] at c70'
                refine y_if (fun c73 => ?_) (fun c73 => ?_)
                · skip
                  have e74 := y_and16 p2
                  have c73' := c73
                  rw [Int32.lt_iff_toInt_lt] at c73'
                  have e75 : (65536 : Int32).toInt = 65536 := rfl
                  try have e76 := @y_min (p2 >>> (16 &&& 31)) (p1 >>> (16 &&& 31))
                  try have e77 := @y_mulL (65536 : Int32) (if ((p2 >>> (16 &&& 31)) < (p1 >>> (16 &&& 31))) then (p2 >>> (16 &&& 31)) else (p1 >>> (16 &&& 31))) 65536 rfl (by omega) (by omega)
                  refine y_some ?_
                  try dsimp only
                  refine ⟨?_, ?_, ?_⟩ <;> (first | (exact y_Cm_c (y_Cm_e (x := p1.toInt) hU (by omega) (by omega)) (by omega) (by omega) (by omega)) | (exact y_Cm_c ‹y_Cm _ _ _ _› (by omega) (by omega) (by omega)) | (exact y_Cm_c (y_Cm_f (kx := Int32.toNatClampNeg (p1 &&& 65535)) (x := (p1 &&& 65535).toInt) (y := (p2 &&& 65535).toInt) hU hF (by omega) (by omega) (by omega) (by omega) (by omega) (by omega)) (by omega) (by omega) (by omega)) | (exact y_Cm_c (y_Cm_s (y_Cm_f (kx := Int32.toNatClampNeg (p2 &&& 65535)) (x := (p2 &&& 65535).toInt) (y := (p1 &&& 65535).toInt) hU hF (by omega) (by omega) (by omega) (by omega) (by omega) (by omega))) (by omega) (by omega) (by omega)) | (exfalso; omega) | with_reducible assumption | omega)
                · skip
                  have e78 := y_and16 p2
                  have c73' := c73
                  rw [Int32.lt_iff_toInt_lt] at c73'
                  have e79 : (65536 : Int32).toInt = 65536 := rfl
                  try have e80 := @y_subL (p2 >>> (16 &&& 31)) (1 : Int32) (1) rfl (by omega) (by omega)
                  try have e81 := @y_min ((p2 >>> (16 &&& 31)) - (1 : Int32)) (p1 >>> (16 &&& 31))
                  try have e82 := @y_mulL (65536 : Int32) (if (((p2 >>> (16 &&& 31)) - (1 : Int32)) < (p1 >>> (16 &&& 31))) then ((p2 >>> (16 &&& 31)) - (1 : Int32)) else (p1 >>> (16 &&& 31))) 65536 rfl (by omega) (by omega)
                  refine y_some ?_
                  try dsimp only
                  refine ⟨?_, ?_, ?_⟩ <;> (first | (exact y_Cm_c (y_Cm_e (x := p1.toInt) hU (by omega) (by omega)) (by omega) (by omega) (by omega)) | (exact y_Cm_c ‹y_Cm _ _ _ _› (by omega) (by omega) (by omega)) | (exact y_Cm_c (y_Cm_f (kx := Int32.toNatClampNeg (p1 &&& 65535)) (x := (p1 &&& 65535).toInt) (y := (p2 &&& 65535).toInt) hU hF (by omega) (by omega) (by omega) (by omega) (by omega) (by omega)) (by omega) (by omega) (by omega)) | (exact y_Cm_c (y_Cm_s (y_Cm_f (kx := Int32.toNatClampNeg (p2 &&& 65535)) (x := (p2 &&& 65535).toInt) (y := (p1 &&& 65535).toInt) hU hF (by omega) (by omega) (by omega) (by omega) (by omega) (by omega))) (by omega) (by omega) (by omega)) | (exfalso; omega) | with_reducible assumption | omega)
              · skip
                have e83 := y_and16 p1
                have e84 : (65528 : Int32).toInt = 65528 := rfl
                have c70' := c70
                rw [Int32.lt_iff_toInt_lt] at c70'
                refine y_if (fun c85 => ?_) (fun c85 => ?_)
                · skip
                  have e86 := y_and16 p2
                  have c85' := c85
                  rw [Int32.lt_iff_toInt_lt] at c85'
                  have e87 : (65536 : Int32).toInt = 65536 := rfl
                  try have e88 := @y_subL (p1 >>> (16 &&& 31)) (1 : Int32) (1) rfl (by omega) (by omega)
                  try have e89 := @y_min (p2 >>> (16 &&& 31)) ((p1 >>> (16 &&& 31)) - (1 : Int32))
                  try have e90 := @y_mulL (65536 : Int32) (if ((p2 >>> (16 &&& 31)) < ((p1 >>> (16 &&& 31)) - (1 : Int32))) then (p2 >>> (16 &&& 31)) else ((p1 >>> (16 &&& 31)) - (1 : Int32))) 65536 rfl (by omega) (by omega)
                  refine y_some ?_
                  try dsimp only
                  refine ⟨?_, ?_, ?_⟩ <;> (first | (exact y_Cm_c (y_Cm_e (x := p1.toInt) hU (by omega) (by omega)) (by omega) (by omega) (by omega)) | (exact y_Cm_c ‹y_Cm _ _ _ _› (by omega) (by omega) (by omega)) | (exact y_Cm_c (y_Cm_f (kx := Int32.toNatClampNeg (p1 &&& 65535)) (x := (p1 &&& 65535).toInt) (y := (p2 &&& 65535).toInt) hU hF (by omega) (by omega) (by omega) (by omega) (by omega) (by omega)) (by omega) (by omega) (by omega)) | (exact y_Cm_c (y_Cm_s (y_Cm_f (kx := Int32.toNatClampNeg (p2 &&& 65535)) (x := (p2 &&& 65535).toInt) (y := (p1 &&& 65535).toInt) hU hF (by omega) (by omega) (by omega) (by omega) (by omega) (by omega))) (by omega) (by omega) (by omega)) | (exfalso; omega) | with_reducible assumption | omega)
                · skip
                  have e91 := y_and16 p2
                  have c85' := c85
                  rw [Int32.lt_iff_toInt_lt] at c85'
                  have e92 : (65536 : Int32).toInt = 65536 := rfl
                  try have e93 := @y_subL (p2 >>> (16 &&& 31)) (1 : Int32) (1) rfl (by omega) (by omega)
                  try have e94 := @y_subL (p1 >>> (16 &&& 31)) (1 : Int32) (1) rfl (by omega) (by omega)
                  try have e95 := @y_min ((p2 >>> (16 &&& 31)) - (1 : Int32)) ((p1 >>> (16 &&& 31)) - (1 : Int32))
                  try have e96 := @y_mulL (65536 : Int32) (if (((p2 >>> (16 &&& 31)) - (1 : Int32)) < ((p1 >>> (16 &&& 31)) - (1 : Int32))) then ((p2 >>> (16 &&& 31)) - (1 : Int32)) else ((p1 >>> (16 &&& 31)) - (1 : Int32))) 65536 rfl (by omega) (by omega)
                  refine y_some ?_
                  try dsimp only
                  refine ⟨?_, ?_, ?_⟩ <;> (first | (exact y_Cm_c (y_Cm_e (x := p1.toInt) hU (by omega) (by omega)) (by omega) (by omega) (by omega)) | (exact y_Cm_c ‹y_Cm _ _ _ _› (by omega) (by omega) (by omega)) | (exact y_Cm_c (y_Cm_f (kx := Int32.toNatClampNeg (p1 &&& 65535)) (x := (p1 &&& 65535).toInt) (y := (p2 &&& 65535).toInt) hU hF (by omega) (by omega) (by omega) (by omega) (by omega) (by omega)) (by omega) (by omega) (by omega)) | (exact y_Cm_c (y_Cm_s (y_Cm_f (kx := Int32.toNatClampNeg (p2 &&& 65535)) (x := (p2 &&& 65535).toInt) (y := (p1 &&& 65535).toInt) hU hF (by omega) (by omega) (by omega) (by omega) (by omega) (by omega))) (by omega) (by omega) (by omega)) | (exfalso; omega) | with_reducible assumption | omega)
    · skip
      have e97 := y_sar16 p1
      have e98 : (0 : Int32).toInt = 0 := rfl
      have c2' := c2
      rw [← Int32.toInt_inj] at c2'
      refine y_if (fun c99 => ?_) (fun c99 => ?_)
      · skip
        have c99' := c99
        rw [← Int32.toInt_inj] at c99'
        refine y_some ?_
        try dsimp only
        refine ⟨?_, ?_, ?_⟩ <;> (first | (exact y_Cm_c (y_Cm_e (x := p1.toInt) hU (by omega) (by omega)) (by omega) (by omega) (by omega)) | (exact y_Cm_c ‹y_Cm _ _ _ _› (by omega) (by omega) (by omega)) | (exact y_Cm_c (y_Cm_f (kx := Int32.toNatClampNeg (p1 &&& 65535)) (x := (p1 &&& 65535).toInt) (y := (p2 &&& 65535).toInt) hU hF (by omega) (by omega) (by omega) (by omega) (by omega) (by omega)) (by omega) (by omega) (by omega)) | (exact y_Cm_c (y_Cm_s (y_Cm_f (kx := Int32.toNatClampNeg (p2 &&& 65535)) (x := (p2 &&& 65535).toInt) (y := (p1 &&& 65535).toInt) hU hF (by omega) (by omega) (by omega) (by omega) (by omega) (by omega))) (by omega) (by omega) (by omega)) | (exfalso; omega) | with_reducible assumption | omega)
      · skip
        have c99' := c99
        rw [← Int32.toInt_inj] at c99'
        refine y_if (fun c100 => ?_) (fun c100 => ?_)
        · skip
          have e101 := y_sar16 p2
          have c100' := c100
          rw [← Int32.toInt_inj] at c100'
          refine y_some ?_
          try dsimp only
          refine ⟨?_, ?_, ?_⟩ <;> (first | (exact y_Cm_c (y_Cm_e (x := p1.toInt) hU (by omega) (by omega)) (by omega) (by omega) (by omega)) | (exact y_Cm_c ‹y_Cm _ _ _ _› (by omega) (by omega) (by omega)) | (exact y_Cm_c (y_Cm_f (kx := Int32.toNatClampNeg (p1 &&& 65535)) (x := (p1 &&& 65535).toInt) (y := (p2 &&& 65535).toInt) hU hF (by omega) (by omega) (by omega) (by omega) (by omega) (by omega)) (by omega) (by omega) (by omega)) | (exact y_Cm_c (y_Cm_s (y_Cm_f (kx := Int32.toNatClampNeg (p2 &&& 65535)) (x := (p2 &&& 65535).toInt) (y := (p1 &&& 65535).toInt) hU hF (by omega) (by omega) (by omega) (by omega) (by omega) (by omega))) (by omega) (by omega) (by omega)) | (exfalso; omega) | with_reducible assumption | omega)
        · skip
          have e102 := y_sar16 p2
          have c100' := c100
          rw [← Int32.toInt_inj] at c100'
          refine y_if (fun c103 => ?_) (fun c103 => ?_)
          · skip
            have c103' := c103
            rw [← Int32.toInt_inj] at c103'
            refine y_if (fun c104 => ?_) (fun c104 => ?_)
            · skip
              have e105 : (65528 : Int32).toInt = 65528 := rfl
              have e106 := y_and16 p1
              have c104' := c104
              rw [Int32.le_iff_toInt_le] at c104'
              refine y_if (fun c107 => ?_) (fun c107 => ?_)
              · skip
                have c107' := c107
                rw [Int32.lt_iff_toInt_lt] at c107'
                refine y_if (fun c108 => ?_) (fun c108 => ?_)
                · skip
                  have e109 := y_and16 p2
                  have c108' := c108
                  rw [Int32.lt_iff_toInt_lt] at c108'
                  have e110 : (65536 : Int32).toInt = 65536 := rfl
                  try have e111 := @y_min (p2 >>> (16 &&& 31)) (p1 >>> (16 &&& 31))
                  try have e112 := @y_mulL (65536 : Int32) (if ((p2 >>> (16 &&& 31)) < (p1 >>> (16 &&& 31))) then (p2 >>> (16 &&& 31)) else (p1 >>> (16 &&& 31))) 65536 rfl (by omega) (by omega)
                  refine y_some ?_
                  try dsimp only
                  refine ⟨?_, ?_, ?_⟩ <;> (first | (exact y_Cm_c (y_Cm_e (x := p1.toInt) hU (by omega) (by omega)) (by omega) (by omega) (by omega)) | (exact y_Cm_c ‹y_Cm _ _ _ _› (by omega) (by omega) (by omega)) | (exact y_Cm_c (y_Cm_f (kx := Int32.toNatClampNeg (p1 &&& 65535)) (x := (p1 &&& 65535).toInt) (y := (p2 &&& 65535).toInt) hU hF (by omega) (by omega) (by omega) (by omega) (by omega) (by omega)) (by omega) (by omega) (by omega)) | (exact y_Cm_c (y_Cm_s (y_Cm_f (kx := Int32.toNatClampNeg (p2 &&& 65535)) (x := (p2 &&& 65535).toInt) (y := (p1 &&& 65535).toInt) hU hF (by omega) (by omega) (by omega) (by omega) (by omega) (by omega))) (by omega) (by omega) (by omega)) | (exfalso; omega) | with_reducible assumption | omega)
                · skip
                  have e113 := y_and16 p2
                  have c108' := c108
                  rw [Int32.lt_iff_toInt_lt] at c108'
                  have e114 : (65536 : Int32).toInt = 65536 := rfl
                  try have e115 := @y_subL (p2 >>> (16 &&& 31)) (1 : Int32) (1) rfl (by omega) (by omega)
                  try have e116 := @y_min ((p2 >>> (16 &&& 31)) - (1 : Int32)) (p1 >>> (16 &&& 31))
                  try have e117 := @y_mulL (65536 : Int32) (if (((p2 >>> (16 &&& 31)) - (1 : Int32)) < (p1 >>> (16 &&& 31))) then ((p2 >>> (16 &&& 31)) - (1 : Int32)) else (p1 >>> (16 &&& 31))) 65536 rfl (by omega) (by omega)
                  refine y_some ?_
                  try dsimp only
                  refine ⟨?_, ?_, ?_⟩ <;> (first | (exact y_Cm_c (y_Cm_e (x := p1.toInt) hU (by omega) (by omega)) (by omega) (by omega) (by omega)) | (exact y_Cm_c ‹y_Cm _ _ _ _› (by omega) (by omega) (by omega)) | (exact y_Cm_c (y_Cm_f (kx := Int32.toNatClampNeg (p1 &&& 65535)) (x := (p1 &&& 65535).toInt) (y := (p2 &&& 65535).toInt) hU hF (by omega) (by omega) (by omega) (by omega) (by omega) (by omega)) (by omega) (by omega) (by omega)) | (exact y_Cm_c (y_Cm_s (y_Cm_f (kx := Int32.toNatClampNeg (p2 &&& 65535)) (x := (p2 &&& 65535).toInt) (y := (p1 &&& 65535).toInt) hU hF (by omega) (by omega) (by omega) (by omega) (by omega) (by omega))) (by omega) (by omega) (by omega)) | (exfalso; omega) | with_reducible assumption | omega)
              · skip
                have c107' := c107
                rw [Int32.lt_iff_toInt_lt] at c107'
                refine y_if (fun c118 => ?_) (fun c118 => ?_)
                · skip
                  have e119 := y_and16 p2
                  have c118' := c118
                  rw [Int32.lt_iff_toInt_lt] at c118'
                  have e120 : (65536 : Int32).toInt = 65536 := rfl
                  try have e121 := @y_subL (p1 >>> (16 &&& 31)) (1 : Int32) (1) rfl (by omega) (by omega)
                  try have e122 := @y_min (p2 >>> (16 &&& 31)) ((p1 >>> (16 &&& 31)) - (1 : Int32))
                  try have e123 := @y_mulL (65536 : Int32) (if ((p2 >>> (16 &&& 31)) < ((p1 >>> (16 &&& 31)) - (1 : Int32))) then (p2 >>> (16 &&& 31)) else ((p1 >>> (16 &&& 31)) - (1 : Int32))) 65536 rfl (by omega) (by omega)
                  refine y_some ?_
                  try dsimp only
                  refine ⟨?_, ?_, ?_⟩ <;> (first | (exact y_Cm_c (y_Cm_e (x := p1.toInt) hU (by omega) (by omega)) (by omega) (by omega) (by omega)) | (exact y_Cm_c ‹y_Cm _ _ _ _› (by omega) (by omega) (by omega)) | (exact y_Cm_c (y_Cm_f (kx := Int32.toNatClampNeg (p1 &&& 65535)) (x := (p1 &&& 65535).toInt) (y := (p2 &&& 65535).toInt) hU hF (by omega) (by omega) (by omega) (by omega) (by omega) (by omega)) (by omega) (by omega) (by omega)) | (exact y_Cm_c (y_Cm_s (y_Cm_f (kx := Int32.toNatClampNeg (p2 &&& 65535)) (x := (p2 &&& 65535).toInt) (y := (p1 &&& 65535).toInt) hU hF (by omega) (by omega) (by omega) (by omega) (by omega) (by omega))) (by omega) (by omega) (by omega)) | (exfalso; omega) | with_reducible assumption | omega)
                · skip
                  have e124 := y_and16 p2
                  have c118' := c118
                  rw [Int32.lt_iff_toInt_lt] at c118'
                  have e125 : (65536 : Int32).toInt = 65536 := rfl
                  try have e126 := @y_subL (p2 >>> (16 &&& 31)) (1 : Int32) (1) rfl (by omega) (by omega)
                  try have e127 := @y_subL (p1 >>> (16 &&& 31)) (1 : Int32) (1) rfl (by omega) (by omega)
                  try have e128 := @y_min ((p2 >>> (16 &&& 31)) - (1 : Int32)) ((p1 >>> (16 &&& 31)) - (1 : Int32))
                  try have e129 := @y_mulL (65536 : Int32) (if (((p2 >>> (16 &&& 31)) - (1 : Int32)) < ((p1 >>> (16 &&& 31)) - (1 : Int32))) then ((p2 >>> (16 &&& 31)) - (1 : Int32)) else ((p1 >>> (16 &&& 31)) - (1 : Int32))) 65536 rfl (by omega) (by omega)
                  refine y_some ?_
                  try dsimp only
                  refine ⟨?_, ?_, ?_⟩ <;> (first | (exact y_Cm_c (y_Cm_e (x := p1.toInt) hU (by omega) (by omega)) (by omega) (by omega) (by omega)) | (exact y_Cm_c ‹y_Cm _ _ _ _› (by omega) (by omega) (by omega)) | (exact y_Cm_c (y_Cm_f (kx := Int32.toNatClampNeg (p1 &&& 65535)) (x := (p1 &&& 65535).toInt) (y := (p2 &&& 65535).toInt) hU hF (by omega) (by omega) (by omega) (by omega) (by omega) (by omega)) (by omega) (by omega) (by omega)) | (exact y_Cm_c (y_Cm_s (y_Cm_f (kx := Int32.toNatClampNeg (p2 &&& 65535)) (x := (p2 &&& 65535).toInt) (y := (p1 &&& 65535).toInt) hU hF (by omega) (by omega) (by omega) (by omega) (by omega) (by omega))) (by omega) (by omega) (by omega)) | (exfalso; omega) | with_reducible assumption | omega)
            · skip
              have e130 : (65528 : Int32).toInt = 65528 := rfl
              have e131 := y_and16 p1
              have c104' := c104
              rw [Int32.le_iff_toInt_le] at c104'
              refine y_if (fun c132 => ?_) (fun c132 => ?_)
              · skip
                have e133 := y_and16 p2
                have c132' := c132
                rw [Int32.le_iff_toInt_le] at c132'
                refine y_if (fun c134 => ?_) (fun c134 => ?_)
                · skip
                  have c134' := c134
                  rw [Int32.lt_iff_toInt_lt] at c134'
                  refine y_if (fun c135 => ?_) (fun c135 => ?_)
                  · skip
                    have c135' := c135
                    rw [Int32.lt_iff_toInt_lt] at c135'
                    have e136 : (65536 : Int32).toInt = 65536 := rfl
                    try have e137 := @y_min (p2 >>> (16 &&& 31)) (p1 >>> (16 &&& 31))
                    try have e138 := @y_mulL (65536 : Int32) (if ((p2 >>> (16 &&& 31)) < (p1 >>> (16 &&& 31))) then (p2 >>> (16 &&& 31)) else (p1 >>> (16 &&& 31))) 65536 rfl (by omega) (by omega)
                    refine y_some ?_
                    try dsimp only
                    refine ⟨?_, ?_, ?_⟩ <;> (first | (exact y_Cm_c (y_Cm_e (x := p1.toInt) hU (by omega) (by omega)) (by omega) (by omega) (by omega)) | (exact y_Cm_c ‹y_Cm _ _ _ _› (by omega) (by omega) (by omega)) | (exact y_Cm_c (y_Cm_f (kx := Int32.toNatClampNeg (p1 &&& 65535)) (x := (p1 &&& 65535).toInt) (y := (p2 &&& 65535).toInt) hU hF (by omega) (by omega) (by omega) (by omega) (by omega) (by omega)) (by omega) (by omega) (by omega)) | (exact y_Cm_c (y_Cm_s (y_Cm_f (kx := Int32.toNatClampNeg (p2 &&& 65535)) (x := (p2 &&& 65535).toInt) (y := (p1 &&& 65535).toInt) hU hF (by omega) (by omega) (by omega) (by omega) (by omega) (by omega))) (by omega) (by omega) (by omega)) | (exfalso; omega) | with_reducible assumption | omega)
                  · skip
                    have c135' := c135
                    rw [Int32.lt_iff_toInt_lt] at c135'
                    have e139 : (65536 : Int32).toInt = 65536 := rfl
                    try have e140 := @y_subL (p2 >>> (16 &&& 31)) (1 : Int32) (1) rfl (by omega) (by omega)
                    try have e141 := @y_min ((p2 >>> (16 &&& 31)) - (1 : Int32)) (p1 >>> (16 &&& 31))
                    try have e142 := @y_mulL (65536 : Int32) (if (((p2 >>> (16 &&& 31)) - (1 : Int32)) < (p1 >>> (16 &&& 31))) then ((p2 >>> (16 &&& 31)) - (1 : Int32)) else (p1 >>> (16 &&& 31))) 65536 rfl (by omega) (by omega)
                    refine y_some ?_
                    try dsimp only
                    refine ⟨?_, ?_, ?_⟩ <;> (first | (exact y_Cm_c (y_Cm_e (x := p1.toInt) hU (by omega) (by omega)) (by omega) (by omega) (by omega)) | (exact y_Cm_c ‹y_Cm _ _ _ _› (by omega) (by omega) (by omega)) | (exact y_Cm_c (y_Cm_f (kx := Int32.toNatClampNeg (p1 &&& 65535)) (x := (p1 &&& 65535).toInt) (y := (p2 &&& 65535).toInt) hU hF (by omega) (by omega) (by omega) (by omega) (by omega) (by omega)) (by omega) (by omega) (by omega)) | (exact y_Cm_c (y_Cm_s (y_Cm_f (kx := Int32.toNatClampNeg (p2 &&& 65535)) (x := (p2 &&& 65535).toInt) (y := (p1 &&& 65535).toInt) hU hF (by omega) (by omega) (by omega) (by omega) (by omega) (by omega))) (by omega) (by omega) (by omega)) | (exfalso; omega) | with_reducible assumption | omega)
                · skip
                  have c134' := c134
                  rw [Int32.lt_iff_toInt_lt] at c134'
                  refine y_if (fun c143 => ?_) (fun c143 => ?_)
                  · skip
                    have c143' := c143
                    rw [Int32.lt_iff_toInt_lt] at c143'
                    have e144 : (65536 : Int32).toInt = 65536 := rfl
                    try have e145 := @y_subL (p1 >>> (16 &&& 31)) (1 : Int32) (1) rfl (by omega) (by omega)
                    try have e146 := @y_min (p2 >>> (16 &&& 31)) ((p1 >>> (16 &&& 31)) - (1 : Int32))
                    try have e147 := @y_mulL (65536 : Int32) (if ((p2 >>> (16 &&& 31)) < ((p1 >>> (16 &&& 31)) - (1 : Int32))) then (p2 >>> (16 &&& 31)) else ((p1 >>> (16 &&& 31)) - (1 : Int32))) 65536 rfl (by omega) (by omega)
                    refine y_some ?_
                    try dsimp only
                    refine ⟨?_, ?_, ?_⟩ <;> (first | (exact y_Cm_c (y_Cm_e (x := p1.toInt) hU (by omega) (by omega)) (by omega) (by omega) (by omega)) | (exact y_Cm_c ‹y_Cm _ _ _ _› (by omega) (by omega) (by omega)) | (exact y_Cm_c (y_Cm_f (kx := Int32.toNatClampNeg (p1 &&& 65535)) (x := (p1 &&& 65535).toInt) (y := (p2 &&& 65535).toInt) hU hF (by omega) (by omega) (by omega) (by omega) (by omega) (by omega)) (by omega) (by omega) (by omega)) | (exact y_Cm_c (y_Cm_s (y_Cm_f (kx := Int32.toNatClampNeg (p2 &&& 65535)) (x := (p2 &&& 65535).toInt) (y := (p1 &&& 65535).toInt) hU hF (by omega) (by omega) (by omega) (by omega) (by omega) (by omega))) (by omega) (by omega) (by omega)) | (exfalso; omega) | with_reducible assumption | omega)
                  · skip
                    have c143' := c143
                    rw [Int32.lt_iff_toInt_lt] at c143'
                    have e148 : (65536 : Int32).toInt = 65536 := rfl
                    try have e149 := @y_subL (p2 >>> (16 &&& 31)) (1 : Int32) (1) rfl (by omega) (by omega)
                    try have e150 := @y_subL (p1 >>> (16 &&& 31)) (1 : Int32) (1) rfl (by omega) (by omega)
                    try have e151 := @y_min ((p2 >>> (16 &&& 31)) - (1 : Int32)) ((p1 >>> (16 &&& 31)) - (1 : Int32))
                    try have e152 := @y_mulL (65536 : Int32) (if (((p2 >>> (16 &&& 31)) - (1 : Int32)) < ((p1 >>> (16 &&& 31)) - (1 : Int32))) then ((p2 >>> (16 &&& 31)) - (1 : Int32)) else ((p1 >>> (16 &&& 31)) - (1 : Int32))) 65536 rfl (by omega) (by omega)
                    refine y_some ?_
                    try dsimp only
                    refine ⟨?_, ?_, ?_⟩ <;> (first | (exact y_Cm_c (y_Cm_e (x := p1.toInt) hU (by omega) (by omega)) (by omega) (by omega) (by omega)) | (exact y_Cm_c ‹y_Cm _ _ _ _› (by omega) (by omega) (by omega)) | (exact y_Cm_c (y_Cm_f (kx := Int32.toNatClampNeg (p1 &&& 65535)) (x := (p1 &&& 65535).toInt) (y := (p2 &&& 65535).toInt) hU hF (by omega) (by omega) (by omega) (by omega) (by omega) (by omega)) (by omega) (by omega) (by omega)) | (exact y_Cm_c (y_Cm_s (y_Cm_f (kx := Int32.toNatClampNeg (p2 &&& 65535)) (x := (p2 &&& 65535).toInt) (y := (p1 &&& 65535).toInt) hU hF (by omega) (by omega) (by omega) (by omega) (by omega) (by omega))) (by omega) (by omega) (by omega)) | (exfalso; omega) | with_reducible assumption | omega)
              · skip
                have e153 := y_and16 p2
                have c132' := c132
                rw [Int32.le_iff_toInt_le] at c132'
                exfalso; omega
          · skip
            have c103' := c103
            rw [← Int32.toInt_inj] at c103'
            refine y_if (fun c154 => ?_) (fun c154 => ?_)
            · skip
              have e155 := y_and16 p1
              have e156 : (65528 : Int32).toInt = 65528 := rfl
              have c154' := c154
              rw [Int32.lt_iff_toInt_lt] at c154'
              refine y_if (fun c157 => ?_) (fun c157 => ?_)
              · skip
                have e158 := y_and16 p2
                have c157' := c157
                rw [Int32.lt_iff_toInt_lt] at c157'
                have e159 : (65536 : Int32).toInt = 65536 := rfl
                try have e160 := @y_min (p2 >>> (16 &&& 31)) (p1 >>> (16 &&& 31))
                try have e161 := @y_mulL (65536 : Int32) (if ((p2 >>> (16 &&& 31)) < (p1 >>> (16 &&& 31))) then (p2 >>> (16 &&& 31)) else (p1 >>> (16 &&& 31))) 65536 rfl (by omega) (by omega)
                refine y_some ?_
                try dsimp only
                refine ⟨?_, ?_, ?_⟩ <;> (first | (exact y_Cm_c (y_Cm_e (x := p1.toInt) hU (by omega) (by omega)) (by omega) (by omega) (by omega)) | (exact y_Cm_c ‹y_Cm _ _ _ _› (by omega) (by omega) (by omega)) | (exact y_Cm_c (y_Cm_f (kx := Int32.toNatClampNeg (p1 &&& 65535)) (x := (p1 &&& 65535).toInt) (y := (p2 &&& 65535).toInt) hU hF (by omega) (by omega) (by omega) (by omega) (by omega) (by omega)) (by omega) (by omega) (by omega)) | (exact y_Cm_c (y_Cm_s (y_Cm_f (kx := Int32.toNatClampNeg (p2 &&& 65535)) (x := (p2 &&& 65535).toInt) (y := (p1 &&& 65535).toInt) hU hF (by omega) (by omega) (by omega) (by omega) (by omega) (by omega))) (by omega) (by omega) (by omega)) | (exfalso; omega) | with_reducible assumption | omega)
              · skip
                have e162 := y_and16 p2
                have c157' := c157
                rw [Int32.lt_iff_toInt_lt] at c157'
                have e163 : (65536 : Int32).toInt = 65536 := rfl
                try have e164 := @y_subL (p2 >>> (16 &&& 31)) (1 : Int32) (1) rfl (by omega) (by omega)
                try have e165 := @y_min ((p2 >>> (16 &&& 31)) - (1 : Int32)) (p1 >>> (16 &&& 31))
                try have e166 := @y_mulL (65536 : Int32) (if (((p2 >>> (16 &&& 31)) - (1 : Int32)) < (p1 >>> (16 &&& 31))) then ((p2 >>> (16 &&& 31)) - (1 : Int32)) else (p1 >>> (16 &&& 31))) 65536 rfl (by omega) (by omega)
                refine y_some ?_
                try dsimp only
                refine ⟨?_, ?_, ?_⟩ <;> (first | (exact y_Cm_c (y_Cm_e (x := p1.toInt) hU (by omega) (by omega)) (by omega) (by omega) (by omega)) | (exact y_Cm_c ‹y_Cm _ _ _ _› (by omega) (by omega) (by omega)) | (exact y_Cm_c (y_Cm_f (kx := Int32.toNatClampNeg (p1 &&& 65535)) (x := (p1 &&& 65535).toInt) (y := (p2 &&& 65535).toInt) hU hF (by omega) (by omega) (by omega) (by omega) (by omega) (by omega)) (by omega) (by omega) (by omega)) | (exact y_Cm_c (y_Cm_s (y_Cm_f (kx := Int32.toNatClampNeg (p2 &&& 65535)) (x := (p2 &&& 65535).toInt) (y := (p1 &&& 65535).toInt) hU hF (by omega) (by omega) (by omega) (by omega) (by omega) (by omega))) (by omega) (by omega) (by omega)) | (exfalso; omega) | with_reducible assumption | omega)
            · skip
              have e167 := y_and16 p1
              have e168 : (65528 : Int32).toInt = 65528 := rfl
              have c154' := c154
              rw [Int32.lt_iff_toInt_lt] at c154'
              refine y_if (fun c169 => ?_) (fun c169 => ?_)
              · skip
                have e170 := y_and16 p2
                have c169' := c169
                rw [Int32.lt_iff_toInt_lt] at c169'
                have e171 : (65536 : Int32).toInt = 65536 := rfl
                try have e172 := @y_subL (p1 >>> (16 &&& 31)) (1 : Int32) (1) rfl (by omega) (by omega)
                try have e173 := @y_min (p2 >>> (16 &&& 31)) ((p1 >>> (16 &&& 31)) - (1 : Int32))
                try have e174 := @y_mulL (65536 : Int32) (if ((p2 >>> (16 &&& 31)) < ((p1 >>> (16 &&& 31)) - (1 : Int32))) then (p2 >>> (16 &&& 31)) else ((p1 >>> (16 &&& 31)) - (1 : Int32))) 65536 rfl (by omega) (by omega)
                refine y_some ?_
                try dsimp only
                refine ⟨?_, ?_, ?_⟩ <;> (first | (exact y_Cm_c (y_Cm_e (x := p1.toInt) hU (by omega) (by omega)) (by omega) (by omega) (by omega)) | (exact y_Cm_c ‹y_Cm _ _ _ _› (by omega) (by omega) (by omega)) | (exact y_Cm_c (y_Cm_f (kx := Int32.toNatClampNeg (p1 &&& 65535)) (x := (p1 &&& 65535).toInt) (y := (p2 &&& 65535).toInt) hU hF (by omega) (by omega) (by omega) (by omega) (by omega) (by omega)) (by omega) (by omega) (by omega)) | (exact y_Cm_c (y_Cm_s (y_Cm_f (kx := Int32.toNatClampNeg (p2 &&& 65535)) (x := (p2 &&& 65535).toInt) (y := (p1 &&& 65535).toInt) hU hF (by omega) (by omega) (by omega) (by omega) (by omega) (by omega))) (by omega) (by omega) (by omega)) | (exfalso; omega) | with_reducible assumption | omega)
              · skip
                have e175 := y_and16 p2
                have c169' := c169
                rw [Int32.lt_iff_toInt_lt] at c169'
                have e176 : (65536 : Int32).toInt = 65536 := rfl
                try have e177 := @y_subL (p2 >>> (16 &&& 31)) (1 : Int32) (1) rfl (by omega) (by omega)
                try have e178 := @y_subL (p1 >>> (16 &&& 31)) (1 : Int32) (1) rfl (by omega) (by omega)
                try have e179 := @y_min ((p2 >>> (16 &&& 31)) - (1 : Int32)) ((p1 >>> (16 &&& 31)) - (1 : Int32))
                try have e180 := @y_mulL (65536 : Int32) (if (((p2 >>> (16 &&& 31)) - (1 : Int32)) < ((p1 >>> (16 &&& 31)) - (1 : Int32))) then ((p2 >>> (16 &&& 31)) - (1 : Int32)) else ((p1 >>> (16 &&& 31)) - (1 : Int32))) 65536 rfl (by omega) (by omega)
                refine y_some ?_
                try dsimp only
                refine ⟨?_, ?_, ?_⟩ <;> (first | (exact y_Cm_c (y_Cm_e (x := p1.toInt) hU (by omega) (by omega)) (by omega) (by omega) (by omega)) | (exact y_Cm_c ‹y_Cm _ _ _ _› (by omega) (by omega) (by omega)) | (exact y_Cm_c (y_Cm_f (kx := Int32.toNatClampNeg (p1 &&& 65535)) (x := (p1 &&& 65535).toInt) (y := (p2 &&& 65535).toInt) hU hF (by omega) (by omega) (by omega) (by omega) (by omega) (by omega)) (by omega) (by omega) (by omega)) | (exact y_Cm_c (y_Cm_s (y_Cm_f (kx := Int32.toNatClampNeg (p2 &&& 65535)) (x := (p2 &&& 65535).toInt) (y := (p1 &&& 65535).toInt) hU hF (by omega) (by omega) (by omega) (by omega) (by omega) (by omega))) (by omega) (by omega) (by omega)) | (exfalso; omega) | with_reducible assumption | omega)
set_option maxHeartbeats 4000000 in
theorem ye_X9_shared_L_0_i {g9_4 : Nat → Int32} {g9_5 : Nat → Int32} {l6 : Int32} (hU : y_Up g9_4) (k1 : 0 ≤ l6.toInt) (k2 : l6.toInt < 200) : ∀ (m : Nat) {l7 : Int32}, (0 ≤ l7.toInt) → (l7.toInt < 200) → l7.toInt < m → y_Ok (f_X9_shared_L g9_4 g9_5 l6 (0, l7)) (fun r => (y_Cm g9_4 l7.toInt l6.toInt r.toInt)) := by
  intro m
  induction m with
  | zero => intro l7 k3 k4 hm; exfalso; omega
  | succ m ih =>
    intro l7 k3 k4 hm
    rw [f_X9_shared_L]
    refine y_ip rfl ?_
    refine y_bi (ye_X9_below (by first | (exact y_Cm_h hU (by omega) (by omega) (by with_reducible assumption)) | (exact y_Cm_n (k := (Int32.toNatClampNeg l7)) hU (by omega) (by omega) (by with_reducible assumption) ‹y_Cm _ _ _ _›) | with_reducible assumption | omega | (exfalso; omega)) (by omega) (by omega) (by omega)) (fun r_1 h_r_1 => ?_)
    have h0_r_1 : (r_1.toInt = 0 ∧ ¬ (y_B g9_4 l7.toInt l6.toInt)) ∨ (r_1.toInt = 1 ∧ (y_B g9_4 l7.toInt l6.toInt)) := h_r_1
    refine y_if (fun c1 => ?_) (fun c1 => ?_)
    · skip
      have e2 : (0 : Int32).toInt = 0 := rfl
      have c1' := c1
      rw [← Int32.toInt_inj] at c1'
      have e3 := y_or0 h0_r_1 c1'
      clear h0_r_1
      have hl0 : ¬ l7.toInt = 0 := fun hz => absurd (y_B0 (x := l6.toInt) hU (by omega) (by omega)) (by rw [← hz]; with_reducible assumption)
      have hclv := @y_cl l7 (by omega)
      have hupk := hU.2 (Int32.toNatClampNeg l7) (by omega) (by omega)
      refine y_gd (y_gdI (by omega) (by omega)) ?_
      try have e4 := @y_cl l7 (by omega)
      try have e5 := hU.at (Int32.toNatClampNeg l7) (by omega)
      refine y_Ok.mono (ih (l7 := (g9_4 (Int32.toNatClampNeg l7))) (by omega) (by omega) (by omega)) (fun r_t5 h_r_t5 => ?_)
      (first | (exact y_Cm_h hU (by omega) (by omega) (by with_reducible assumption)) | (exact y_Cm_n (k := (Int32.toNatClampNeg l7)) hU (by omega) (by omega) (by with_reducible assumption) ‹y_Cm _ _ _ _›) | with_reducible assumption | omega | (exfalso; omega))
    · skip
      have e7 : (0 : Int32).toInt = 0 := rfl
      have c1' := c1
      rw [← Int32.toInt_inj] at c1'
      have e8 := y_or1 h0_r_1 c1'
      clear h0_r_1
      refine y_some ?_
      try dsimp only
      (first | (exact y_Cm_h hU (by omega) (by omega) (by with_reducible assumption)) | (exact y_Cm_n (k := (Int32.toNatClampNeg l7)) hU (by omega) (by omega) (by with_reducible assumption) ‹y_Cm _ _ _ _›) | with_reducible assumption | omega | (exfalso; omega))
theorem ye_X9_shared_L_0 {g9_4 : Nat → Int32} {g9_5 : Nat → Int32} {l6 : Int32} {l7 : Int32} (hU : y_Up g9_4) (k1 : 0 ≤ l6.toInt) (k2 : l6.toInt < 200) (k3 : 0 ≤ l7.toInt) (k4 : l7.toInt < 200) : y_Ok (f_X9_shared_L g9_4 g9_5 l6 (0, l7)) (fun r => (y_Cm g9_4 l7.toInt l6.toInt r.toInt)) := ye_X9_shared_L_0_i hU k1 k2 (l7.toInt + 1).toNat k3 k4 (by omega)
set_option maxHeartbeats 4000000 in
theorem ye_X9_shared {g9_4 : Nat → Int32} {g9_5 : Nat → Int32} {p1 : Int32} {p2 : Int32} {v : Int} (k0 : 4 ≤ v) (k1 : v ≤ 200) (hU : y_Up g9_4) (hF : y_Fa v g9_4 g9_5) (k4 : 0 ≤ p1.toInt) (k5 : p1.toInt < 16777216) (k6 : p1.toInt % 65536 < v ∨ 65528 ≤ p1.toInt % 65536) (k7 : ¬ (65528 ≤ p1.toInt ∧ p1.toInt < 65536)) (k8 : 0 ≤ p2.toInt) (k9 : p2.toInt < 16777216) (k10 : p2.toInt % 65536 < v ∨ 65528 ≤ p2.toInt % 65536) (k11 : ¬ (65528 ≤ p2.toInt ∧ p2.toInt < 65536)) : y_Ok (f_X9_shared g9_4 g9_5 p1 p2) (fun r => (y_Sh v g9_4 p1.toInt p2.toInt r.toInt)) := by
  have hax := y_and16 p1
  have hay := y_and16 p2
  have hcx := @y_cl (p1 &&& 65535) (by omega)
  have hcy := @y_cl (p2 &&& 65535) (by omega)
  unfold f_X9_shared
  refine y_if (fun c1 => ?_) (fun c1 => ?_)
  · skip
    have c1' := c1
    rw [← Int32.toInt_inj] at c1'
    refine y_some ?_
    try dsimp only
    (first | (exact Or.inl ⟨by omega, by omega⟩) | (exact Or.inr (Or.inr ⟨by omega, by omega, by unfold y_Mn; omega⟩)) | (exact Or.inr (Or.inl ⟨by omega, by omega, y_Cm_c ‹y_Cm _ _ _ _› (by omega) (by omega) (by omega)⟩)) | (exact Or.inr (Or.inl ⟨by omega, by omega, y_Cm_c (y_Cm_f (kx := Int32.toNatClampNeg (p1 &&& 65535)) (x := (p1 &&& 65535).toInt) (y := (p2 &&& 65535).toInt) hU hF (by omega) (by omega) (by omega) (by omega) (by omega) (by omega)) (by omega) (by omega) (by omega)⟩)) | (exact Or.inr (Or.inl ⟨by omega, by omega, y_Cm_c (y_Cm_s (y_Cm_f (kx := Int32.toNatClampNeg (p2 &&& 65535)) (x := (p2 &&& 65535).toInt) (y := (p1 &&& 65535).toInt) hU hF (by omega) (by omega) (by omega) (by omega) (by omega) (by omega))) (by omega) (by omega) (by omega)⟩)) | (exfalso; omega) | with_reducible assumption | omega)
  · skip
    have c1' := c1
    rw [← Int32.toInt_inj] at c1'
    refine y_if (fun c2 => ?_) (fun c2 => ?_)
    · skip
      have e3 := y_sar16 p1
      have e4 : (0 : Int32).toInt = 0 := rfl
      have c2' := c2
      rw [← Int32.toInt_inj] at c2'
      refine y_if (fun c5 => ?_) (fun c5 => ?_)
      · skip
        have e6 := y_sar16 p2
        have c5' := c5
        rw [← Int32.toInt_inj] at c5'
        have e7 := y_and16 p1
        refine y_gd (y_gdI (by omega) (by omega)) ?_
        refine y_if (fun c8 => ?_) (fun c8 => ?_)
        · skip
          try have e9 := @y_cl (p1 &&& (65535 : Int32)) (by omega)
          have c8' := c8
          rw [← Int32.toInt_inj] at c8'
          have e10 := y_and16 p2
          refine y_gd (y_gdI (by omega) (by omega)) ?_
          refine y_if (fun c11 => ?_) (fun c11 => ?_)
          · skip
            try have e12 := @y_cl (p2 &&& (65535 : Int32)) (by omega)
            have c11' := c11
            rw [← Int32.toInt_inj] at c11'
            refine y_Ok.mono (ye_X9_shared_L_0 (l7 := (p1 &&& 65535)) (by first | (exact Or.inl ⟨by omega, by omega⟩) | (exact Or.inr (Or.inr ⟨by omega, by omega, by unfold y_Mn; omega⟩)) | (exact Or.inr (Or.inl ⟨by omega, by omega, y_Cm_c ‹y_Cm _ _ _ _› (by omega) (by omega) (by omega)⟩)) | (exact Or.inr (Or.inl ⟨by omega, by omega, y_Cm_c (y_Cm_f (kx := Int32.toNatClampNeg (p1 &&& 65535)) (x := (p1 &&& 65535).toInt) (y := (p2 &&& 65535).toInt) hU hF (by omega) (by omega) (by omega) (by omega) (by omega) (by omega)) (by omega) (by omega) (by omega)⟩)) | (exact Or.inr (Or.inl ⟨by omega, by omega, y_Cm_c (y_Cm_s (y_Cm_f (kx := Int32.toNatClampNeg (p2 &&& 65535)) (x := (p2 &&& 65535).toInt) (y := (p1 &&& 65535).toInt) hU hF (by omega) (by omega) (by omega) (by omega) (by omega) (by omega))) (by omega) (by omega) (by omega)⟩)) | (exfalso; omega) | with_reducible assumption | omega) (by omega) (by omega) (by omega) (by omega)) (fun r_t12 h_r_t12 => ?_)
            (first | (exact Or.inl ⟨by omega, by omega⟩) | (exact Or.inr (Or.inr ⟨by omega, by omega, by unfold y_Mn; omega⟩)) | (exact Or.inr (Or.inl ⟨by omega, by omega, y_Cm_c ‹y_Cm _ _ _ _› (by omega) (by omega) (by omega)⟩)) | (exact Or.inr (Or.inl ⟨by omega, by omega, y_Cm_c (y_Cm_f (kx := Int32.toNatClampNeg (p1 &&& 65535)) (x := (p1 &&& 65535).toInt) (y := (p2 &&& 65535).toInt) hU hF (by omega) (by omega) (by omega) (by omega) (by omega) (by omega)) (by omega) (by omega) (by omega)⟩)) | (exact Or.inr (Or.inl ⟨by omega, by omega, y_Cm_c (y_Cm_s (y_Cm_f (kx := Int32.toNatClampNeg (p2 &&& 65535)) (x := (p2 &&& 65535).toInt) (y := (p1 &&& 65535).toInt) hU hF (by omega) (by omega) (by omega) (by omega) (by omega) (by omega))) (by omega) (by omega) (by omega)⟩)) | (exfalso; omega) | with_reducible assumption | omega)
          · skip
            try have e14 := @y_cl (p2 &&& (65535 : Int32)) (by omega)
            have c11' := c11
            rw [← Int32.toInt_inj] at c11'
            refine y_some ?_
            try dsimp only
            (first | (exact Or.inl ⟨by omega, by omega⟩) | (exact Or.inr (Or.inr ⟨by omega, by omega, by unfold y_Mn; omega⟩)) | (exact Or.inr (Or.inl ⟨by omega, by omega, y_Cm_c ‹y_Cm _ _ _ _› (by omega) (by omega) (by omega)⟩)) | (exact Or.inr (Or.inl ⟨by omega, by omega, y_Cm_c (y_Cm_f (kx := Int32.toNatClampNeg (p1 &&& 65535)) (x := (p1 &&& 65535).toInt) (y := (p2 &&& 65535).toInt) hU hF (by omega) (by omega) (by omega) (by omega) (by omega) (by omega)) (by omega) (by omega) (by omega)⟩)) | (exact Or.inr (Or.inl ⟨by omega, by omega, y_Cm_c (y_Cm_s (y_Cm_f (kx := Int32.toNatClampNeg (p2 &&& 65535)) (x := (p2 &&& 65535).toInt) (y := (p1 &&& 65535).toInt) hU hF (by omega) (by omega) (by omega) (by omega) (by omega) (by omega))) (by omega) (by omega) (by omega)⟩)) | (exfalso; omega) | with_reducible assumption | omega)
        · skip
          try have e15 := @y_cl (p1 &&& (65535 : Int32)) (by omega)
          have c8' := c8
          rw [← Int32.toInt_inj] at c8'
          refine y_some ?_
          try dsimp only
          (first | (exact Or.inl ⟨by omega, by omega⟩) | (exact Or.inr (Or.inr ⟨by omega, by omega, by unfold y_Mn; omega⟩)) | (exact Or.inr (Or.inl ⟨by omega, by omega, y_Cm_c ‹y_Cm _ _ _ _› (by omega) (by omega) (by omega)⟩)) | (exact Or.inr (Or.inl ⟨by omega, by omega, y_Cm_c (y_Cm_f (kx := Int32.toNatClampNeg (p1 &&& 65535)) (x := (p1 &&& 65535).toInt) (y := (p2 &&& 65535).toInt) hU hF (by omega) (by omega) (by omega) (by omega) (by omega) (by omega)) (by omega) (by omega) (by omega)⟩)) | (exact Or.inr (Or.inl ⟨by omega, by omega, y_Cm_c (y_Cm_s (y_Cm_f (kx := Int32.toNatClampNeg (p2 &&& 65535)) (x := (p2 &&& 65535).toInt) (y := (p1 &&& 65535).toInt) hU hF (by omega) (by omega) (by omega) (by omega) (by omega) (by omega))) (by omega) (by omega) (by omega)⟩)) | (exfalso; omega) | with_reducible assumption | omega)
      · skip
        have e16 := y_sar16 p2
        have c5' := c5
        rw [← Int32.toInt_inj] at c5'
        refine y_if (fun c17 => ?_) (fun c17 => ?_)
        · skip
          have c17' := c17
          rw [← Int32.toInt_inj] at c17'
          refine y_some ?_
          try dsimp only
          (first | (exact Or.inl ⟨by omega, by omega⟩) | (exact Or.inr (Or.inr ⟨by omega, by omega, by unfold y_Mn; omega⟩)) | (exact Or.inr (Or.inl ⟨by omega, by omega, y_Cm_c ‹y_Cm _ _ _ _› (by omega) (by omega) (by omega)⟩)) | (exact Or.inr (Or.inl ⟨by omega, by omega, y_Cm_c (y_Cm_f (kx := Int32.toNatClampNeg (p1 &&& 65535)) (x := (p1 &&& 65535).toInt) (y := (p2 &&& 65535).toInt) hU hF (by omega) (by omega) (by omega) (by omega) (by omega) (by omega)) (by omega) (by omega) (by omega)⟩)) | (exact Or.inr (Or.inl ⟨by omega, by omega, y_Cm_c (y_Cm_s (y_Cm_f (kx := Int32.toNatClampNeg (p2 &&& 65535)) (x := (p2 &&& 65535).toInt) (y := (p1 &&& 65535).toInt) hU hF (by omega) (by omega) (by omega) (by omega) (by omega) (by omega))) (by omega) (by omega) (by omega)⟩)) | (exfalso; omega) | with_reducible assumption | omega)
        · skip
          have c17' := c17
          rw [← Int32.toInt_inj] at c17'
          refine y_if (fun c18 => ?_) (fun c18 => ?_)
          · skip
            have c18' := c18
            rw [← Int32.toInt_inj] at c18'
            refine y_some ?_
            try dsimp only
            (first | (exact Or.inl ⟨by omega, by omega⟩) | (exact Or.inr (Or.inr ⟨by omega, by omega, by unfold y_Mn; omega⟩)) | (exact Or.inr (Or.inl ⟨by omega, by omega, y_Cm_c ‹y_Cm _ _ _ _› (by omega) (by omega) (by omega)⟩)) | (exact Or.inr (Or.inl ⟨by omega, by omega, y_Cm_c (y_Cm_f (kx := Int32.toNatClampNeg (p1 &&& 65535)) (x := (p1 &&& 65535).toInt) (y := (p2 &&& 65535).toInt) hU hF (by omega) (by omega) (by omega) (by omega) (by omega) (by omega)) (by omega) (by omega) (by omega)⟩)) | (exact Or.inr (Or.inl ⟨by omega, by omega, y_Cm_c (y_Cm_s (y_Cm_f (kx := Int32.toNatClampNeg (p2 &&& 65535)) (x := (p2 &&& 65535).toInt) (y := (p1 &&& 65535).toInt) hU hF (by omega) (by omega) (by omega) (by omega) (by omega) (by omega))) (by omega) (by omega) (by omega)⟩)) | (exfalso; omega) | with_reducible assumption | omega)
          · skip
            have c18' := c18
            rw [← Int32.toInt_inj] at c18'
            refine y_if (fun c19 => ?_) (fun c19 => ?_)
            · skip
              have c19' := c19
              rw [← Int32.toInt_inj] at c19'
              refine y_if (fun c20 => ?_) (fun c20 => ?_)
              · skip
                have e21 : (65528 : Int32).toInt = 65528 := rfl
                have e22 := y_and16 p1
                have c20' := c20
                rw [Int32.le_iff_toInt_le] at c20'
                refine y_if (fun c23 => ?_) (fun c23 => ?_)
                · skip
                  have c23' := c23
                  rw [Int32.lt_iff_toInt_lt] at c23'
                  refine y_if (fun c24 => ?_) (fun c24 => ?_)
                  · skip
                    have e25 := y_and16 p2
                    have c24' := c24
                    rw [Int32.lt_iff_toInt_lt] at c24'
                    have e26 : (65536 : Int32).toInt = 65536 := rfl
                    try have e27 := @y_min (p2 >>> (16 &&& 31)) (p1 >>> (16 &&& 31))
                    try have e28 := @y_mulL (65536 : Int32) (if ((p2 >>> (16 &&& 31)) < (p1 >>> (16 &&& 31))) then (p2 >>> (16 &&& 31)) else (p1 >>> (16 &&& 31))) 65536 rfl (by omega) (by omega)
                    refine y_some ?_
                    try dsimp only
                    (first | (exact Or.inl ⟨by omega, by omega⟩) | (exact Or.inr (Or.inr ⟨by omega, by omega, by unfold y_Mn; omega⟩)) | (exact Or.inr (Or.inl ⟨by omega, by omega, y_Cm_c ‹y_Cm _ _ _ _› (by omega) (by omega) (by omega)⟩)) | (exact Or.inr (Or.inl ⟨by omega, by omega, y_Cm_c (y_Cm_f (kx := Int32.toNatClampNeg (p1 &&& 65535)) (x := (p1 &&& 65535).toInt) (y := (p2 &&& 65535).toInt) hU hF (by omega) (by omega) (by omega) (by omega) (by omega) (by omega)) (by omega) (by omega) (by omega)⟩)) | (exact Or.inr (Or.inl ⟨by omega, by omega, y_Cm_c (y_Cm_s (y_Cm_f (kx := Int32.toNatClampNeg (p2 &&& 65535)) (x := (p2 &&& 65535).toInt) (y := (p1 &&& 65535).toInt) hU hF (by omega) (by omega) (by omega) (by omega) (by omega) (by omega))) (by omega) (by omega) (by omega)⟩)) | (exfalso; omega) | with_reducible assumption | omega)
                  · skip
                    have e29 := y_and16 p2
                    have c24' := c24
                    rw [Int32.lt_iff_toInt_lt] at c24'
                    have e30 : (65536 : Int32).toInt = 65536 := rfl
                    try have e31 := @y_subL (p2 >>> (16 &&& 31)) (1 : Int32) (1) rfl (by omega) (by omega)
                    try have e32 := @y_min ((p2 >>> (16 &&& 31)) - (1 : Int32)) (p1 >>> (16 &&& 31))
                    try have e33 := @y_mulL (65536 : Int32) (if (((p2 >>> (16 &&& 31)) - (1 : Int32)) < (p1 >>> (16 &&& 31))) then ((p2 >>> (16 &&& 31)) - (1 : Int32)) else (p1 >>> (16 &&& 31))) 65536 rfl (by omega) (by omega)
                    refine y_some ?_
                    try dsimp only
                    (first | (exact Or.inl ⟨by omega, by omega⟩) | (exact Or.inr (Or.inr ⟨by omega, by omega, by unfold y_Mn; omega⟩)) | (exact Or.inr (Or.inl ⟨by omega, by omega, y_Cm_c ‹y_Cm _ _ _ _› (by omega) (by omega) (by omega)⟩)) | (exact Or.inr (Or.inl ⟨by omega, by omega, y_Cm_c (y_Cm_f (kx := Int32.toNatClampNeg (p1 &&& 65535)) (x := (p1 &&& 65535).toInt) (y := (p2 &&& 65535).toInt) hU hF (by omega) (by omega) (by omega) (by omega) (by omega) (by omega)) (by omega) (by omega) (by omega)⟩)) | (exact Or.inr (Or.inl ⟨by omega, by omega, y_Cm_c (y_Cm_s (y_Cm_f (kx := Int32.toNatClampNeg (p2 &&& 65535)) (x := (p2 &&& 65535).toInt) (y := (p1 &&& 65535).toInt) hU hF (by omega) (by omega) (by omega) (by omega) (by omega) (by omega))) (by omega) (by omega) (by omega)⟩)) | (exfalso; omega) | with_reducible assumption | omega)
                · skip
                  have c23' := c23
                  rw [Int32.lt_iff_toInt_lt] at c23'
                  refine y_if (fun c34 => ?_) (fun c34 => ?_)
                  · skip
                    have e35 := y_and16 p2
                    have c34' := c34
                    rw [Int32.lt_iff_toInt_lt] at c34'
                    have e36 : (65536 : Int32).toInt = 65536 := rfl
                    try have e37 := @y_subL (p1 >>> (16 &&& 31)) (1 : Int32) (1) rfl (by omega) (by omega)
                    try have e38 := @y_min (p2 >>> (16 &&& 31)) ((p1 >>> (16 &&& 31)) - (1 : Int32))
                    try have e39 := @y_mulL (65536 : Int32) (if ((p2 >>> (16 &&& 31)) < ((p1 >>> (16 &&& 31)) - (1 : Int32))) then (p2 >>> (16 &&& 31)) else ((p1 >>> (16 &&& 31)) - (1 : Int32))) 65536 rfl (by omega) (by omega)
                    refine y_some ?_
                    try dsimp only
                    (first | (exact Or.inl ⟨by omega, by omega⟩) | (exact Or.inr (Or.inr ⟨by omega, by omega, by unfold y_Mn; omega⟩)) | (exact Or.inr (Or.inl ⟨by omega, by omega, y_Cm_c ‹y_Cm _ _ _ _› (by omega) (by omega) (by omega)⟩)) | (exact Or.inr (Or.inl ⟨by omega, by omega, y_Cm_c (y_Cm_f (kx := Int32.toNatClampNeg (p1 &&& 65535)) (x := (p1 &&& 65535).toInt) (y := (p2 &&& 65535).toInt) hU hF (by omega) (by omega) (by omega) (by omega) (by omega) (by omega)) (by omega) (by omega) (by omega)⟩)) | (exact Or.inr (Or.inl ⟨by omega, by omega, y_Cm_c (y_Cm_s (y_Cm_f (kx := Int32.toNatClampNeg (p2 &&& 65535)) (x := (p2 &&& 65535).toInt) (y := (p1 &&& 65535).toInt) hU hF (by omega) (by omega) (by omega) (by omega) (by omega) (by omega))) (by omega) (by omega) (by omega)⟩)) | (exfalso; omega) | with_reducible assumption | omega)
                  · skip
                    have e40 := y_and16 p2
                    have c34' := c34
                    rw [Int32.lt_iff_toInt_lt] at c34'
                    have e41 : (65536 : Int32).toInt = 65536 := rfl
                    try have e42 := @y_subL (p2 >>> (16 &&& 31)) (1 : Int32) (1) rfl (by omega) (by omega)
                    try have e43 := @y_subL (p1 >>> (16 &&& 31)) (1 : Int32) (1) rfl (by omega) (by omega)
                    try have e44 := @y_min ((p2 >>> (16 &&& 31)) - (1 : Int32)) ((p1 >>> (16 &&& 31)) - (1 : Int32))
                    try have e45 := @y_mulL (65536 : Int32) (if (((p2 >>> (16 &&& 31)) - (1 : Int32)) < ((p1 >>> (16 &&& 31)) - (1 : Int32))) then ((p2 >>> (16 &&& 31)) - (1 : Int32)) else ((p1 >>> (16 &&& 31)) - (1 : Int32))) 65536 rfl (by omega) (by omega)
                    refine y_some ?_
                    try dsimp only
                    (first | (exact Or.inl ⟨by omega, by omega⟩) | (exact Or.inr (Or.inr ⟨by omega, by omega, by unfold y_Mn; omega⟩)) | (exact Or.inr (Or.inl ⟨by omega, by omega, y_Cm_c ‹y_Cm _ _ _ _› (by omega) (by omega) (by omega)⟩)) | (exact Or.inr (Or.inl ⟨by omega, by omega, y_Cm_c (y_Cm_f (kx := Int32.toNatClampNeg (p1 &&& 65535)) (x := (p1 &&& 65535).toInt) (y := (p2 &&& 65535).toInt) hU hF (by omega) (by omega) (by omega) (by omega) (by omega) (by omega)) (by omega) (by omega) (by omega)⟩)) | (exact Or.inr (Or.inl ⟨by omega, by omega, y_Cm_c (y_Cm_s (y_Cm_f (kx := Int32.toNatClampNeg (p2 &&& 65535)) (x := (p2 &&& 65535).toInt) (y := (p1 &&& 65535).toInt) hU hF (by omega) (by omega) (by omega) (by omega) (by omega) (by omega))) (by omega) (by omega) (by omega)⟩)) | (exfalso; omega) | with_reducible assumption | omega)
              · skip
                have e46 : (65528 : Int32).toInt = 65528 := rfl
                have e47 := y_and16 p1
                have c20' := c20
                rw [Int32.le_iff_toInt_le] at c20'
                refine y_if (fun c48 => ?_) (fun c48 => ?_)
                · skip
                  have e49 := y_and16 p2
                  have c48' := c48
                  rw [Int32.le_iff_toInt_le] at c48'
                  refine y_if (fun c50 => ?_) (fun c50 => ?_)
                  · skip
                    have c50' := c50
                    rw [Int32.lt_iff_toInt_lt] at c50'
                    refine y_if (fun c51 => ?_) (fun c51 => ?_)
                    · skip
                      have c51' := c51
                      rw [Int32.lt_iff_toInt_lt] at c51'
                      have e52 : (65536 : Int32).toInt = 65536 := rfl
                      try have e53 := @y_min (p2 >>> (16 &&& 31)) (p1 >>> (16 &&& 31))
                      try have e54 := @y_mulL (65536 : Int32) (if ((p2 >>> (16 &&& 31)) < (p1 >>> (16 &&& 31))) then (p2 >>> (16 &&& 31)) else (p1 >>> (16 &&& 31))) 65536 rfl (by omega) (by omega)
                      refine y_some ?_
                      try dsimp only
                      (first | (exact Or.inl ⟨by omega, by omega⟩) | (exact Or.inr (Or.inr ⟨by omega, by omega, by unfold y_Mn; omega⟩)) | (exact Or.inr (Or.inl ⟨by omega, by omega, y_Cm_c ‹y_Cm _ _ _ _› (by omega) (by omega) (by omega)⟩)) | (exact Or.inr (Or.inl ⟨by omega, by omega, y_Cm_c (y_Cm_f (kx := Int32.toNatClampNeg (p1 &&& 65535)) (x := (p1 &&& 65535).toInt) (y := (p2 &&& 65535).toInt) hU hF (by omega) (by omega) (by omega) (by omega) (by omega) (by omega)) (by omega) (by omega) (by omega)⟩)) | (exact Or.inr (Or.inl ⟨by omega, by omega, y_Cm_c (y_Cm_s (y_Cm_f (kx := Int32.toNatClampNeg (p2 &&& 65535)) (x := (p2 &&& 65535).toInt) (y := (p1 &&& 65535).toInt) hU hF (by omega) (by omega) (by omega) (by omega) (by omega) (by omega))) (by omega) (by omega) (by omega)⟩)) | (exfalso; omega) | with_reducible assumption | omega)
                    · skip
                      have c51' := c51
                      rw [Int32.lt_iff_toInt_lt] at c51'
                      have e55 : (65536 : Int32).toInt = 65536 := rfl
                      try have e56 := @y_subL (p2 >>> (16 &&& 31)) (1 : Int32) (1) rfl (by omega) (by omega)
                      try have e57 := @y_min ((p2 >>> (16 &&& 31)) - (1 : Int32)) (p1 >>> (16 &&& 31))
                      try have e58 := @y_mulL (65536 : Int32) (if (((p2 >>> (16 &&& 31)) - (1 : Int32)) < (p1 >>> (16 &&& 31))) then ((p2 >>> (16 &&& 31)) - (1 : Int32)) else (p1 >>> (16 &&& 31))) 65536 rfl (by omega) (by omega)
                      refine y_some ?_
                      try dsimp only
                      (first | (exact Or.inl ⟨by omega, by omega⟩) | (exact Or.inr (Or.inr ⟨by omega, by omega, by unfold y_Mn; omega⟩)) | (exact Or.inr (Or.inl ⟨by omega, by omega, y_Cm_c ‹y_Cm _ _ _ _› (by omega) (by omega) (by omega)⟩)) | (exact Or.inr (Or.inl ⟨by omega, by omega, y_Cm_c (y_Cm_f (kx := Int32.toNatClampNeg (p1 &&& 65535)) (x := (p1 &&& 65535).toInt) (y := (p2 &&& 65535).toInt) hU hF (by omega) (by omega) (by omega) (by omega) (by omega) (by omega)) (by omega) (by omega) (by omega)⟩)) | (exact Or.inr (Or.inl ⟨by omega, by omega, y_Cm_c (y_Cm_s (y_Cm_f (kx := Int32.toNatClampNeg (p2 &&& 65535)) (x := (p2 &&& 65535).toInt) (y := (p1 &&& 65535).toInt) hU hF (by omega) (by omega) (by omega) (by omega) (by omega) (by omega))) (by omega) (by omega) (by omega)⟩)) | (exfalso; omega) | with_reducible assumption | omega)
                  · skip
                    have c50' := c50
                    rw [Int32.lt_iff_toInt_lt] at c50'
                    refine y_if (fun c59 => ?_) (fun c59 => ?_)
                    · skip
                      have c59' := c59
                      rw [Int32.lt_iff_toInt_lt] at c59'
                      have e60 : (65536 : Int32).toInt = 65536 := rfl
                      try have e61 := @y_subL (p1 >>> (16 &&& 31)) (1 : Int32) (1) rfl (by omega) (by omega)
                      try have e62 := @y_min (p2 >>> (16 &&& 31)) ((p1 >>> (16 &&& 31)) - (1 : Int32))
                      try have e63 := @y_mulL (65536 : Int32) (if ((p2 >>> (16 &&& 31)) < ((p1 >>> (16 &&& 31)) - (1 : Int32))) then (p2 >>> (16 &&& 31)) else ((p1 >>> (16 &&& 31)) - (1 : Int32))) 65536 rfl (by omega) (by omega)
                      refine y_some ?_
                      try dsimp only
                      (first | (exact Or.inl ⟨by omega, by omega⟩) | (exact Or.inr (Or.inr ⟨by omega, by omega, by unfold y_Mn; omega⟩)) | (exact Or.inr (Or.inl ⟨by omega, by omega, y_Cm_c ‹y_Cm _ _ _ _› (by omega) (by omega) (by omega)⟩)) | (exact Or.inr (Or.inl ⟨by omega, by omega, y_Cm_c (y_Cm_f (kx := Int32.toNatClampNeg (p1 &&& 65535)) (x := (p1 &&& 65535).toInt) (y := (p2 &&& 65535).toInt) hU hF (by omega) (by omega) (by omega) (by omega) (by omega) (by omega)) (by omega) (by omega) (by omega)⟩)) | (exact Or.inr (Or.inl ⟨by omega, by omega, y_Cm_c (y_Cm_s (y_Cm_f (kx := Int32.toNatClampNeg (p2 &&& 65535)) (x := (p2 &&& 65535).toInt) (y := (p1 &&& 65535).toInt) hU hF (by omega) (by omega) (by omega) (by omega) (by omega) (by omega))) (by omega) (by omega) (by omega)⟩)) | (exfalso; omega) | with_reducible assumption | omega)
                    · skip
                      have c59' := c59
                      rw [Int32.lt_iff_toInt_lt] at c59'
                      have e64 : (65536 : Int32).toInt = 65536 := rfl
                      try have e65 := @y_subL (p2 >>> (16 &&& 31)) (1 : Int32) (1) rfl (by omega) (by omega)
                      try have e66 := @y_subL (p1 >>> (16 &&& 31)) (1 : Int32) (1) rfl (by omega) (by omega)
                      try have e67 := @y_min ((p2 >>> (16 &&& 31)) - (1 : Int32)) ((p1 >>> (16 &&& 31)) - (1 : Int32))
                      try have e68 := @y_mulL (65536 : Int32) (if (((p2 >>> (16 &&& 31)) - (1 : Int32)) < ((p1 >>> (16 &&& 31)) - (1 : Int32))) then ((p2 >>> (16 &&& 31)) - (1 : Int32)) else ((p1 >>> (16 &&& 31)) - (1 : Int32))) 65536 rfl (by omega) (by omega)
                      refine y_some ?_
                      try dsimp only
                      (first | (exact Or.inl ⟨by omega, by omega⟩) | (exact Or.inr (Or.inr ⟨by omega, by omega, by unfold y_Mn; omega⟩)) | (exact Or.inr (Or.inl ⟨by omega, by omega, y_Cm_c ‹y_Cm _ _ _ _› (by omega) (by omega) (by omega)⟩)) | (exact Or.inr (Or.inl ⟨by omega, by omega, y_Cm_c (y_Cm_f (kx := Int32.toNatClampNeg (p1 &&& 65535)) (x := (p1 &&& 65535).toInt) (y := (p2 &&& 65535).toInt) hU hF (by omega) (by omega) (by omega) (by omega) (by omega) (by omega)) (by omega) (by omega) (by omega)⟩)) | (exact Or.inr (Or.inl ⟨by omega, by omega, y_Cm_c (y_Cm_s (y_Cm_f (kx := Int32.toNatClampNeg (p2 &&& 65535)) (x := (p2 &&& 65535).toInt) (y := (p1 &&& 65535).toInt) hU hF (by omega) (by omega) (by omega) (by omega) (by omega) (by omega))) (by omega) (by omega) (by omega)⟩)) | (exfalso; omega) | with_reducible assumption | omega)
                · skip
                  have e69 := y_and16 p2
                  have c48' := c48
                  rw [Int32.le_iff_toInt_le] at c48'
                  refine y_bi (ye_X9_shared_0 (v := v) (by omega) (by omega) (by first | (exact Or.inl ⟨by omega, by omega⟩) | (exact Or.inr (Or.inr ⟨by omega, by omega, by unfold y_Mn; omega⟩)) | (exact Or.inr (Or.inl ⟨by omega, by omega, y_Cm_c ‹y_Cm _ _ _ _› (by omega) (by omega) (by omega)⟩)) | (exact Or.inr (Or.inl ⟨by omega, by omega, y_Cm_c (y_Cm_f (kx := Int32.toNatClampNeg (p1 &&& 65535)) (x := (p1 &&& 65535).toInt) (y := (p2 &&& 65535).toInt) hU hF (by omega) (by omega) (by omega) (by omega) (by omega) (by omega)) (by omega) (by omega) (by omega)⟩)) | (exact Or.inr (Or.inl ⟨by omega, by omega, y_Cm_c (y_Cm_s (y_Cm_f (kx := Int32.toNatClampNeg (p2 &&& 65535)) (x := (p2 &&& 65535).toInt) (y := (p1 &&& 65535).toInt) hU hF (by omega) (by omega) (by omega) (by omega) (by omega) (by omega))) (by omega) (by omega) (by omega)⟩)) | (exfalso; omega) | with_reducible assumption | omega) (by first | (exact Or.inl ⟨by omega, by omega⟩) | (exact Or.inr (Or.inr ⟨by omega, by omega, by unfold y_Mn; omega⟩)) | (exact Or.inr (Or.inl ⟨by omega, by omega, y_Cm_c ‹y_Cm _ _ _ _› (by omega) (by omega) (by omega)⟩)) | (exact Or.inr (Or.inl ⟨by omega, by omega, y_Cm_c (y_Cm_f (kx := Int32.toNatClampNeg (p1 &&& 65535)) (x := (p1 &&& 65535).toInt) (y := (p2 &&& 65535).toInt) hU hF (by omega) (by omega) (by omega) (by omega) (by omega) (by omega)) (by omega) (by omega) (by omega)⟩)) | (exact Or.inr (Or.inl ⟨by omega, by omega, y_Cm_c (y_Cm_s (y_Cm_f (kx := Int32.toNatClampNeg (p2 &&& 65535)) (x := (p2 &&& 65535).toInt) (y := (p1 &&& 65535).toInt) hU hF (by omega) (by omega) (by omega) (by omega) (by omega) (by omega))) (by omega) (by omega) (by omega)⟩)) | (exfalso; omega) | with_reducible assumption | omega) (by omega) (by omega) (by omega) (by omega)) (fun r_36 h_r_36 => ?_)
                  obtain ⟨h0_r_36, h1_r_36, h2_r_36⟩ := h_r_36
                  have e70 : (65536 : Int32).toInt = 65536 := rfl
                  try have e71 := @y_mulL (65536 : Int32) (p1 >>> (16 &&& 31)) 65536 rfl (by omega) (by omega)
                  try have e72 := @y_add r_36 ((65536 : Int32) * (p1 >>> (16 &&& 31))) (by omega) (by omega)
                  refine y_some ?_
                  try dsimp only
                  (first | (exact Or.inl ⟨by omega, by omega⟩) | (exact Or.inr (Or.inr ⟨by omega, by omega, by unfold y_Mn; omega⟩)) | (exact Or.inr (Or.inl ⟨by omega, by omega, y_Cm_c ‹y_Cm _ _ _ _› (by omega) (by omega) (by omega)⟩)) | (exact Or.inr (Or.inl ⟨by omega, by omega, y_Cm_c (y_Cm_f (kx := Int32.toNatClampNeg (p1 &&& 65535)) (x := (p1 &&& 65535).toInt) (y := (p2 &&& 65535).toInt) hU hF (by omega) (by omega) (by omega) (by omega) (by omega) (by omega)) (by omega) (by omega) (by omega)⟩)) | (exact Or.inr (Or.inl ⟨by omega, by omega, y_Cm_c (y_Cm_s (y_Cm_f (kx := Int32.toNatClampNeg (p2 &&& 65535)) (x := (p2 &&& 65535).toInt) (y := (p1 &&& 65535).toInt) hU hF (by omega) (by omega) (by omega) (by omega) (by omega) (by omega))) (by omega) (by omega) (by omega)⟩)) | (exfalso; omega) | with_reducible assumption | omega)
            · skip
              have c19' := c19
              rw [← Int32.toInt_inj] at c19'
              refine y_if (fun c73 => ?_) (fun c73 => ?_)
              · skip
                have e74 := y_and16 p1
                have e75 : (65528 : Int32).toInt = 65528 := rfl
                have c73' := c73
                rw [Int32.lt_iff_toInt_lt] at c73'
                refine y_if (fun c76 => ?_) (fun c76 => ?_)
                · skip
                  have e77 := y_and16 p2
                  have c76' := c76
                  rw [Int32.lt_iff_toInt_lt] at c76'
                  have e78 : (65536 : Int32).toInt = 65536 := rfl
                  try have e79 := @y_min (p2 >>> (16 &&& 31)) (p1 >>> (16 &&& 31))
                  try have e80 := @y_mulL (65536 : Int32) (if ((p2 >>> (16 &&& 31)) < (p1 >>> (16 &&& 31))) then (p2 >>> (16 &&& 31)) else (p1 >>> (16 &&& 31))) 65536 rfl (by omega) (by omega)
                  refine y_some ?_
                  try dsimp only
                  (first | (exact Or.inl ⟨by omega, by omega⟩) | (exact Or.inr (Or.inr ⟨by omega, by omega, by unfold y_Mn; omega⟩)) | (exact Or.inr (Or.inl ⟨by omega, by omega, y_Cm_c ‹y_Cm _ _ _ _› (by omega) (by omega) (by omega)⟩)) | (exact Or.inr (Or.inl ⟨by omega, by omega, y_Cm_c (y_Cm_f (kx := Int32.toNatClampNeg (p1 &&& 65535)) (x := (p1 &&& 65535).toInt) (y := (p2 &&& 65535).toInt) hU hF (by omega) (by omega) (by omega) (by omega) (by omega) (by omega)) (by omega) (by omega) (by omega)⟩)) | (exact Or.inr (Or.inl ⟨by omega, by omega, y_Cm_c (y_Cm_s (y_Cm_f (kx := Int32.toNatClampNeg (p2 &&& 65535)) (x := (p2 &&& 65535).toInt) (y := (p1 &&& 65535).toInt) hU hF (by omega) (by omega) (by omega) (by omega) (by omega) (by omega))) (by omega) (by omega) (by omega)⟩)) | (exfalso; omega) | with_reducible assumption | omega)
                · skip
                  have e81 := y_and16 p2
                  have c76' := c76
                  rw [Int32.lt_iff_toInt_lt] at c76'
                  have e82 : (65536 : Int32).toInt = 65536 := rfl
                  try have e83 := @y_subL (p2 >>> (16 &&& 31)) (1 : Int32) (1) rfl (by omega) (by omega)
                  try have e84 := @y_min ((p2 >>> (16 &&& 31)) - (1 : Int32)) (p1 >>> (16 &&& 31))
                  try have e85 := @y_mulL (65536 : Int32) (if (((p2 >>> (16 &&& 31)) - (1 : Int32)) < (p1 >>> (16 &&& 31))) then ((p2 >>> (16 &&& 31)) - (1 : Int32)) else (p1 >>> (16 &&& 31))) 65536 rfl (by omega) (by omega)
                  refine y_some ?_
                  try dsimp only
                  (first | (exact Or.inl ⟨by omega, by omega⟩) | (exact Or.inr (Or.inr ⟨by omega, by omega, by unfold y_Mn; omega⟩)) | (exact Or.inr (Or.inl ⟨by omega, by omega, y_Cm_c ‹y_Cm _ _ _ _› (by omega) (by omega) (by omega)⟩)) | (exact Or.inr (Or.inl ⟨by omega, by omega, y_Cm_c (y_Cm_f (kx := Int32.toNatClampNeg (p1 &&& 65535)) (x := (p1 &&& 65535).toInt) (y := (p2 &&& 65535).toInt) hU hF (by omega) (by omega) (by omega) (by omega) (by omega) (by omega)) (by omega) (by omega) (by omega)⟩)) | (exact Or.inr (Or.inl ⟨by omega, by omega, y_Cm_c (y_Cm_s (y_Cm_f (kx := Int32.toNatClampNeg (p2 &&& 65535)) (x := (p2 &&& 65535).toInt) (y := (p1 &&& 65535).toInt) hU hF (by omega) (by omega) (by omega) (by omega) (by omega) (by omega))) (by omega) (by omega) (by omega)⟩)) | (exfalso; omega) | with_reducible assumption | omega)
              · skip
                have e86 := y_and16 p1
                have e87 : (65528 : Int32).toInt = 65528 := rfl
                have c73' := c73
                rw [Int32.lt_iff_toInt_lt] at c73'
                refine y_if (fun c88 => ?_) (fun c88 => ?_)
                · skip
                  have e89 := y_and16 p2
                  have c88' := c88
                  rw [Int32.lt_iff_toInt_lt] at c88'
                  have e90 : (65536 : Int32).toInt = 65536 := rfl
                  try have e91 := @y_subL (p1 >>> (16 &&& 31)) (1 : Int32) (1) rfl (by omega) (by omega)
                  try have e92 := @y_min (p2 >>> (16 &&& 31)) ((p1 >>> (16 &&& 31)) - (1 : Int32))
                  try have e93 := @y_mulL (65536 : Int32) (if ((p2 >>> (16 &&& 31)) < ((p1 >>> (16 &&& 31)) - (1 : Int32))) then (p2 >>> (16 &&& 31)) else ((p1 >>> (16 &&& 31)) - (1 : Int32))) 65536 rfl (by omega) (by omega)
                  refine y_some ?_
                  try dsimp only
                  (first | (exact Or.inl ⟨by omega, by omega⟩) | (exact Or.inr (Or.inr ⟨by omega, by omega, by unfold y_Mn; omega⟩)) | (exact Or.inr (Or.inl ⟨by omega, by omega, y_Cm_c ‹y_Cm _ _ _ _› (by omega) (by omega) (by omega)⟩)) | (exact Or.inr (Or.inl ⟨by omega, by omega, y_Cm_c (y_Cm_f (kx := Int32.toNatClampNeg (p1 &&& 65535)) (x := (p1 &&& 65535).toInt) (y := (p2 &&& 65535).toInt) hU hF (by omega) (by omega) (by omega) (by omega) (by omega) (by omega)) (by omega) (by omega) (by omega)⟩)) | (exact Or.inr (Or.inl ⟨by omega, by omega, y_Cm_c (y_Cm_s (y_Cm_f (kx := Int32.toNatClampNeg (p2 &&& 65535)) (x := (p2 &&& 65535).toInt) (y := (p1 &&& 65535).toInt) hU hF (by omega) (by omega) (by omega) (by omega) (by omega) (by omega))) (by omega) (by omega) (by omega)⟩)) | (exfalso; omega) | with_reducible assumption | omega)
                · skip
                  have e94 := y_and16 p2
                  have c88' := c88
                  rw [Int32.lt_iff_toInt_lt] at c88'
                  have e95 : (65536 : Int32).toInt = 65536 := rfl
                  try have e96 := @y_subL (p2 >>> (16 &&& 31)) (1 : Int32) (1) rfl (by omega) (by omega)
                  try have e97 := @y_subL (p1 >>> (16 &&& 31)) (1 : Int32) (1) rfl (by omega) (by omega)
                  try have e98 := @y_min ((p2 >>> (16 &&& 31)) - (1 : Int32)) ((p1 >>> (16 &&& 31)) - (1 : Int32))
                  try have e99 := @y_mulL (65536 : Int32) (if (((p2 >>> (16 &&& 31)) - (1 : Int32)) < ((p1 >>> (16 &&& 31)) - (1 : Int32))) then ((p2 >>> (16 &&& 31)) - (1 : Int32)) else ((p1 >>> (16 &&& 31)) - (1 : Int32))) 65536 rfl (by omega) (by omega)
                  refine y_some ?_
                  try dsimp only
                  (first | (exact Or.inl ⟨by omega, by omega⟩) | (exact Or.inr (Or.inr ⟨by omega, by omega, by unfold y_Mn; omega⟩)) | (exact Or.inr (Or.inl ⟨by omega, by omega, y_Cm_c ‹y_Cm _ _ _ _› (by omega) (by omega) (by omega)⟩)) | (exact Or.inr (Or.inl ⟨by omega, by omega, y_Cm_c (y_Cm_f (kx := Int32.toNatClampNeg (p1 &&& 65535)) (x := (p1 &&& 65535).toInt) (y := (p2 &&& 65535).toInt) hU hF (by omega) (by omega) (by omega) (by omega) (by omega) (by omega)) (by omega) (by omega) (by omega)⟩)) | (exact Or.inr (Or.inl ⟨by omega, by omega, y_Cm_c (y_Cm_s (y_Cm_f (kx := Int32.toNatClampNeg (p2 &&& 65535)) (x := (p2 &&& 65535).toInt) (y := (p1 &&& 65535).toInt) hU hF (by omega) (by omega) (by omega) (by omega) (by omega) (by omega))) (by omega) (by omega) (by omega)⟩)) | (exfalso; omega) | with_reducible assumption | omega)
    · skip
      have e100 := y_sar16 p1
      have e101 : (0 : Int32).toInt = 0 := rfl
      have c2' := c2
      rw [← Int32.toInt_inj] at c2'
      refine y_if (fun c102 => ?_) (fun c102 => ?_)
      · skip
        have c102' := c102
        rw [← Int32.toInt_inj] at c102'
        refine y_some ?_
        try dsimp only
        (first | (exact Or.inl ⟨by omega, by omega⟩) | (exact Or.inr (Or.inr ⟨by omega, by omega, by unfold y_Mn; omega⟩)) | (exact Or.inr (Or.inl ⟨by omega, by omega, y_Cm_c ‹y_Cm _ _ _ _› (by omega) (by omega) (by omega)⟩)) | (exact Or.inr (Or.inl ⟨by omega, by omega, y_Cm_c (y_Cm_f (kx := Int32.toNatClampNeg (p1 &&& 65535)) (x := (p1 &&& 65535).toInt) (y := (p2 &&& 65535).toInt) hU hF (by omega) (by omega) (by omega) (by omega) (by omega) (by omega)) (by omega) (by omega) (by omega)⟩)) | (exact Or.inr (Or.inl ⟨by omega, by omega, y_Cm_c (y_Cm_s (y_Cm_f (kx := Int32.toNatClampNeg (p2 &&& 65535)) (x := (p2 &&& 65535).toInt) (y := (p1 &&& 65535).toInt) hU hF (by omega) (by omega) (by omega) (by omega) (by omega) (by omega))) (by omega) (by omega) (by omega)⟩)) | (exfalso; omega) | with_reducible assumption | omega)
      · skip
        have c102' := c102
        rw [← Int32.toInt_inj] at c102'
        refine y_if (fun c103 => ?_) (fun c103 => ?_)
        · skip
          have e104 := y_sar16 p2
          have c103' := c103
          rw [← Int32.toInt_inj] at c103'
          refine y_some ?_
          try dsimp only
          (first | (exact Or.inl ⟨by omega, by omega⟩) | (exact Or.inr (Or.inr ⟨by omega, by omega, by unfold y_Mn; omega⟩)) | (exact Or.inr (Or.inl ⟨by omega, by omega, y_Cm_c ‹y_Cm _ _ _ _› (by omega) (by omega) (by omega)⟩)) | (exact Or.inr (Or.inl ⟨by omega, by omega, y_Cm_c (y_Cm_f (kx := Int32.toNatClampNeg (p1 &&& 65535)) (x := (p1 &&& 65535).toInt) (y := (p2 &&& 65535).toInt) hU hF (by omega) (by omega) (by omega) (by omega) (by omega) (by omega)) (by omega) (by omega) (by omega)⟩)) | (exact Or.inr (Or.inl ⟨by omega, by omega, y_Cm_c (y_Cm_s (y_Cm_f (kx := Int32.toNatClampNeg (p2 &&& 65535)) (x := (p2 &&& 65535).toInt) (y := (p1 &&& 65535).toInt) hU hF (by omega) (by omega) (by omega) (by omega) (by omega) (by omega))) (by omega) (by omega) (by omega)⟩)) | (exfalso; omega) | with_reducible assumption | omega)
        · skip
          have e105 := y_sar16 p2
          have c103' := c103
          rw [← Int32.toInt_inj] at c103'
          refine y_if (fun c106 => ?_) (fun c106 => ?_)
          · skip
            have c106' := c106
            rw [← Int32.toInt_inj] at c106'
            refine y_if (fun c107 => ?_) (fun c107 => ?_)
            · skip
              have e108 : (65528 : Int32).toInt = 65528 := rfl
              have e109 := y_and16 p1
              have c107' := c107
              rw [Int32.le_iff_toInt_le] at c107'
              refine y_if (fun c110 => ?_) (fun c110 => ?_)
              · skip
                have c110' := c110
                rw [Int32.lt_iff_toInt_lt] at c110'
                refine y_if (fun c111 => ?_) (fun c111 => ?_)
                · skip
                  have e112 := y_and16 p2
                  have c111' := c111
                  rw [Int32.lt_iff_toInt_lt] at c111'
                  have e113 : (65536 : Int32).toInt = 65536 := rfl
                  try have e114 := @y_min (p2 >>> (16 &&& 31)) (p1 >>> (16 &&& 31))
                  try have e115 := @y_mulL (65536 : Int32) (if ((p2 >>> (16 &&& 31)) < (p1 >>> (16 &&& 31))) then (p2 >>> (16 &&& 31)) else (p1 >>> (16 &&& 31))) 65536 rfl (by omega) (by omega)
                  refine y_some ?_
                  try dsimp only
                  (first | (exact Or.inl ⟨by omega, by omega⟩) | (exact Or.inr (Or.inr ⟨by omega, by omega, by unfold y_Mn; omega⟩)) | (exact Or.inr (Or.inl ⟨by omega, by omega, y_Cm_c ‹y_Cm _ _ _ _› (by omega) (by omega) (by omega)⟩)) | (exact Or.inr (Or.inl ⟨by omega, by omega, y_Cm_c (y_Cm_f (kx := Int32.toNatClampNeg (p1 &&& 65535)) (x := (p1 &&& 65535).toInt) (y := (p2 &&& 65535).toInt) hU hF (by omega) (by omega) (by omega) (by omega) (by omega) (by omega)) (by omega) (by omega) (by omega)⟩)) | (exact Or.inr (Or.inl ⟨by omega, by omega, y_Cm_c (y_Cm_s (y_Cm_f (kx := Int32.toNatClampNeg (p2 &&& 65535)) (x := (p2 &&& 65535).toInt) (y := (p1 &&& 65535).toInt) hU hF (by omega) (by omega) (by omega) (by omega) (by omega) (by omega))) (by omega) (by omega) (by omega)⟩)) | (exfalso; omega) | with_reducible assumption | omega)
                · skip
                  have e116 := y_and16 p2
                  have c111' := c111
                  rw [Int32.lt_iff_toInt_lt] at c111'
                  have e117 : (65536 : Int32).toInt = 65536 := rfl
                  try have e118 := @y_subL (p2 >>> (16 &&& 31)) (1 : Int32) (1) rfl (by omega) (by omega)
                  try have e119 := @y_min ((p2 >>> (16 &&& 31)) - (1 : Int32)) (p1 >>> (16 &&& 31))
                  try have e120 := @y_mulL (65536 : Int32) (if (((p2 >>> (16 &&& 31)) - (1 : Int32)) < (p1 >>> (16 &&& 31))) then ((p2 >>> (16 &&& 31)) - (1 : Int32)) else (p1 >>> (16 &&& 31))) 65536 rfl (by omega) (by omega)
                  refine y_some ?_
                  try dsimp only
                  (first | (exact Or.inl ⟨by omega, by omega⟩) | (exact Or.inr (Or.inr ⟨by omega, by omega, by unfold y_Mn; omega⟩)) | (exact Or.inr (Or.inl ⟨by omega, by omega, y_Cm_c ‹y_Cm _ _ _ _› (by omega) (by omega) (by omega)⟩)) | (exact Or.inr (Or.inl ⟨by omega, by omega, y_Cm_c (y_Cm_f (kx := Int32.toNatClampNeg (p1 &&& 65535)) (x := (p1 &&& 65535).toInt) (y := (p2 &&& 65535).toInt) hU hF (by omega) (by omega) (by omega) (by omega) (by omega) (by omega)) (by omega) (by omega) (by omega)⟩)) | (exact Or.inr (Or.inl ⟨by omega, by omega, y_Cm_c (y_Cm_s (y_Cm_f (kx := Int32.toNatClampNeg (p2 &&& 65535)) (x := (p2 &&& 65535).toInt) (y := (p1 &&& 65535).toInt) hU hF (by omega) (by omega) (by omega) (by omega) (by omega) (by omega))) (by omega) (by omega) (by omega)⟩)) | (exfalso; omega) | with_reducible assumption | omega)
              · skip
                have c110' := c110
                rw [Int32.lt_iff_toInt_lt] at c110'
                refine y_if (fun c121 => ?_) (fun c121 => ?_)
                · skip
                  have e122 := y_and16 p2
                  have c121' := c121
                  rw [Int32.lt_iff_toInt_lt] at c121'
                  have e123 : (65536 : Int32).toInt = 65536 := rfl
                  try have e124 := @y_subL (p1 >>> (16 &&& 31)) (1 : Int32) (1) rfl (by omega) (by omega)
                  try have e125 := @y_min (p2 >>> (16 &&& 31)) ((p1 >>> (16 &&& 31)) - (1 : Int32))
                  try have e126 := @y_mulL (65536 : Int32) (if ((p2 >>> (16 &&& 31)) < ((p1 >>> (16 &&& 31)) - (1 : Int32))) then (p2 >>> (16 &&& 31)) else ((p1 >>> (16 &&& 31)) - (1 : Int32))) 65536 rfl (by omega) (by omega)
                  refine y_some ?_
                  try dsimp only
                  (first | (exact Or.inl ⟨by omega, by omega⟩) | (exact Or.inr (Or.inr ⟨by omega, by omega, by unfold y_Mn; omega⟩)) | (exact Or.inr (Or.inl ⟨by omega, by omega, y_Cm_c ‹y_Cm _ _ _ _› (by omega) (by omega) (by omega)⟩)) | (exact Or.inr (Or.inl ⟨by omega, by omega, y_Cm_c (y_Cm_f (kx := Int32.toNatClampNeg (p1 &&& 65535)) (x := (p1 &&& 65535).toInt) (y := (p2 &&& 65535).toInt) hU hF (by omega) (by omega) (by omega) (by omega) (by omega) (by omega)) (by omega) (by omega) (by omega)⟩)) | (exact Or.inr (Or.inl ⟨by omega, by omega, y_Cm_c (y_Cm_s (y_Cm_f (kx := Int32.toNatClampNeg (p2 &&& 65535)) (x := (p2 &&& 65535).toInt) (y := (p1 &&& 65535).toInt) hU hF (by omega) (by omega) (by omega) (by omega) (by omega) (by omega))) (by omega) (by omega) (by omega)⟩)) | (exfalso; omega) | with_reducible assumption | omega)
                · skip
                  have e127 := y_and16 p2
                  have c121' := c121
                  rw [Int32.lt_iff_toInt_lt] at c121'
                  have e128 : (65536 : Int32).toInt = 65536 := rfl
                  try have e129 := @y_subL (p2 >>> (16 &&& 31)) (1 : Int32) (1) rfl (by omega) (by omega)
                  try have e130 := @y_subL (p1 >>> (16 &&& 31)) (1 : Int32) (1) rfl (by omega) (by omega)
                  try have e131 := @y_min ((p2 >>> (16 &&& 31)) - (1 : Int32)) ((p1 >>> (16 &&& 31)) - (1 : Int32))
                  try have e132 := @y_mulL (65536 : Int32) (if (((p2 >>> (16 &&& 31)) - (1 : Int32)) < ((p1 >>> (16 &&& 31)) - (1 : Int32))) then ((p2 >>> (16 &&& 31)) - (1 : Int32)) else ((p1 >>> (16 &&& 31)) - (1 : Int32))) 65536 rfl (by omega) (by omega)
                  refine y_some ?_
                  try dsimp only
                  (first | (exact Or.inl ⟨by omega, by omega⟩) | (exact Or.inr (Or.inr ⟨by omega, by omega, by unfold y_Mn; omega⟩)) | (exact Or.inr (Or.inl ⟨by omega, by omega, y_Cm_c ‹y_Cm _ _ _ _› (by omega) (by omega) (by omega)⟩)) | (exact Or.inr (Or.inl ⟨by omega, by omega, y_Cm_c (y_Cm_f (kx := Int32.toNatClampNeg (p1 &&& 65535)) (x := (p1 &&& 65535).toInt) (y := (p2 &&& 65535).toInt) hU hF (by omega) (by omega) (by omega) (by omega) (by omega) (by omega)) (by omega) (by omega) (by omega)⟩)) | (exact Or.inr (Or.inl ⟨by omega, by omega, y_Cm_c (y_Cm_s (y_Cm_f (kx := Int32.toNatClampNeg (p2 &&& 65535)) (x := (p2 &&& 65535).toInt) (y := (p1 &&& 65535).toInt) hU hF (by omega) (by omega) (by omega) (by omega) (by omega) (by omega))) (by omega) (by omega) (by omega)⟩)) | (exfalso; omega) | with_reducible assumption | omega)
            · skip
              have e133 : (65528 : Int32).toInt = 65528 := rfl
              have e134 := y_and16 p1
              have c107' := c107
              rw [Int32.le_iff_toInt_le] at c107'
              refine y_if (fun c135 => ?_) (fun c135 => ?_)
              · skip
                have e136 := y_and16 p2
                have c135' := c135
                rw [Int32.le_iff_toInt_le] at c135'
                refine y_if (fun c137 => ?_) (fun c137 => ?_)
                · skip
                  have c137' := c137
                  rw [Int32.lt_iff_toInt_lt] at c137'
                  refine y_if (fun c138 => ?_) (fun c138 => ?_)
                  · skip
                    have c138' := c138
                    rw [Int32.lt_iff_toInt_lt] at c138'
                    have e139 : (65536 : Int32).toInt = 65536 := rfl
                    try have e140 := @y_min (p2 >>> (16 &&& 31)) (p1 >>> (16 &&& 31))
                    try have e141 := @y_mulL (65536 : Int32) (if ((p2 >>> (16 &&& 31)) < (p1 >>> (16 &&& 31))) then (p2 >>> (16 &&& 31)) else (p1 >>> (16 &&& 31))) 65536 rfl (by omega) (by omega)
                    refine y_some ?_
                    try dsimp only
                    (first | (exact Or.inl ⟨by omega, by omega⟩) | (exact Or.inr (Or.inr ⟨by omega, by omega, by unfold y_Mn; omega⟩)) | (exact Or.inr (Or.inl ⟨by omega, by omega, y_Cm_c ‹y_Cm _ _ _ _› (by omega) (by omega) (by omega)⟩)) | (exact Or.inr (Or.inl ⟨by omega, by omega, y_Cm_c (y_Cm_f (kx := Int32.toNatClampNeg (p1 &&& 65535)) (x := (p1 &&& 65535).toInt) (y := (p2 &&& 65535).toInt) hU hF (by omega) (by omega) (by omega) (by omega) (by omega) (by omega)) (by omega) (by omega) (by omega)⟩)) | (exact Or.inr (Or.inl ⟨by omega, by omega, y_Cm_c (y_Cm_s (y_Cm_f (kx := Int32.toNatClampNeg (p2 &&& 65535)) (x := (p2 &&& 65535).toInt) (y := (p1 &&& 65535).toInt) hU hF (by omega) (by omega) (by omega) (by omega) (by omega) (by omega))) (by omega) (by omega) (by omega)⟩)) | (exfalso; omega) | with_reducible assumption | omega)
                  · skip
                    have c138' := c138
                    rw [Int32.lt_iff_toInt_lt] at c138'
                    have e142 : (65536 : Int32).toInt = 65536 := rfl
                    try have e143 := @y_subL (p2 >>> (16 &&& 31)) (1 : Int32) (1) rfl (by omega) (by omega)
                    try have e144 := @y_min ((p2 >>> (16 &&& 31)) - (1 : Int32)) (p1 >>> (16 &&& 31))
                    try have e145 := @y_mulL (65536 : Int32) (if (((p2 >>> (16 &&& 31)) - (1 : Int32)) < (p1 >>> (16 &&& 31))) then ((p2 >>> (16 &&& 31)) - (1 : Int32)) else (p1 >>> (16 &&& 31))) 65536 rfl (by omega) (by omega)
                    refine y_some ?_
                    try dsimp only
                    (first | (exact Or.inl ⟨by omega, by omega⟩) | (exact Or.inr (Or.inr ⟨by omega, by omega, by unfold y_Mn; omega⟩)) | (exact Or.inr (Or.inl ⟨by omega, by omega, y_Cm_c ‹y_Cm _ _ _ _› (by omega) (by omega) (by omega)⟩)) | (exact Or.inr (Or.inl ⟨by omega, by omega, y_Cm_c (y_Cm_f (kx := Int32.toNatClampNeg (p1 &&& 65535)) (x := (p1 &&& 65535).toInt) (y := (p2 &&& 65535).toInt) hU hF (by omega) (by omega) (by omega) (by omega) (by omega) (by omega)) (by omega) (by omega) (by omega)⟩)) | (exact Or.inr (Or.inl ⟨by omega, by omega, y_Cm_c (y_Cm_s (y_Cm_f (kx := Int32.toNatClampNeg (p2 &&& 65535)) (x := (p2 &&& 65535).toInt) (y := (p1 &&& 65535).toInt) hU hF (by omega) (by omega) (by omega) (by omega) (by omega) (by omega))) (by omega) (by omega) (by omega)⟩)) | (exfalso; omega) | with_reducible assumption | omega)
                · skip
                  have c137' := c137
                  rw [Int32.lt_iff_toInt_lt] at c137'
                  refine y_if (fun c146 => ?_) (fun c146 => ?_)
                  · skip
                    have c146' := c146
                    rw [Int32.lt_iff_toInt_lt] at c146'
                    have e147 : (65536 : Int32).toInt = 65536 := rfl
                    try have e148 := @y_subL (p1 >>> (16 &&& 31)) (1 : Int32) (1) rfl (by omega) (by omega)
                    try have e149 := @y_min (p2 >>> (16 &&& 31)) ((p1 >>> (16 &&& 31)) - (1 : Int32))
                    try have e150 := @y_mulL (65536 : Int32) (if ((p2 >>> (16 &&& 31)) < ((p1 >>> (16 &&& 31)) - (1 : Int32))) then (p2 >>> (16 &&& 31)) else ((p1 >>> (16 &&& 31)) - (1 : Int32))) 65536 rfl (by omega) (by omega)
                    refine y_some ?_
                    try dsimp only
                    (first | (exact Or.inl ⟨by omega, by omega⟩) | (exact Or.inr (Or.inr ⟨by omega, by omega, by unfold y_Mn; omega⟩)) | (exact Or.inr (Or.inl ⟨by omega, by omega, y_Cm_c ‹y_Cm _ _ _ _› (by omega) (by omega) (by omega)⟩)) | (exact Or.inr (Or.inl ⟨by omega, by omega, y_Cm_c (y_Cm_f (kx := Int32.toNatClampNeg (p1 &&& 65535)) (x := (p1 &&& 65535).toInt) (y := (p2 &&& 65535).toInt) hU hF (by omega) (by omega) (by omega) (by omega) (by omega) (by omega)) (by omega) (by omega) (by omega)⟩)) | (exact Or.inr (Or.inl ⟨by omega, by omega, y_Cm_c (y_Cm_s (y_Cm_f (kx := Int32.toNatClampNeg (p2 &&& 65535)) (x := (p2 &&& 65535).toInt) (y := (p1 &&& 65535).toInt) hU hF (by omega) (by omega) (by omega) (by omega) (by omega) (by omega))) (by omega) (by omega) (by omega)⟩)) | (exfalso; omega) | with_reducible assumption | omega)
                  · skip
                    have c146' := c146
                    rw [Int32.lt_iff_toInt_lt] at c146'
                    have e151 : (65536 : Int32).toInt = 65536 := rfl
                    try have e152 := @y_subL (p2 >>> (16 &&& 31)) (1 : Int32) (1) rfl (by omega) (by omega)
                    try have e153 := @y_subL (p1 >>> (16 &&& 31)) (1 : Int32) (1) rfl (by omega) (by omega)
                    try have e154 := @y_min ((p2 >>> (16 &&& 31)) - (1 : Int32)) ((p1 >>> (16 &&& 31)) - (1 : Int32))
                    try have e155 := @y_mulL (65536 : Int32) (if (((p2 >>> (16 &&& 31)) - (1 : Int32)) < ((p1 >>> (16 &&& 31)) - (1 : Int32))) then ((p2 >>> (16 &&& 31)) - (1 : Int32)) else ((p1 >>> (16 &&& 31)) - (1 : Int32))) 65536 rfl (by omega) (by omega)
                    refine y_some ?_
                    try dsimp only
                    (first | (exact Or.inl ⟨by omega, by omega⟩) | (exact Or.inr (Or.inr ⟨by omega, by omega, by unfold y_Mn; omega⟩)) | (exact Or.inr (Or.inl ⟨by omega, by omega, y_Cm_c ‹y_Cm _ _ _ _› (by omega) (by omega) (by omega)⟩)) | (exact Or.inr (Or.inl ⟨by omega, by omega, y_Cm_c (y_Cm_f (kx := Int32.toNatClampNeg (p1 &&& 65535)) (x := (p1 &&& 65535).toInt) (y := (p2 &&& 65535).toInt) hU hF (by omega) (by omega) (by omega) (by omega) (by omega) (by omega)) (by omega) (by omega) (by omega)⟩)) | (exact Or.inr (Or.inl ⟨by omega, by omega, y_Cm_c (y_Cm_s (y_Cm_f (kx := Int32.toNatClampNeg (p2 &&& 65535)) (x := (p2 &&& 65535).toInt) (y := (p1 &&& 65535).toInt) hU hF (by omega) (by omega) (by omega) (by omega) (by omega) (by omega))) (by omega) (by omega) (by omega)⟩)) | (exfalso; omega) | with_reducible assumption | omega)
              · skip
                have e156 := y_and16 p2
                have c135' := c135
                rw [Int32.le_iff_toInt_le] at c135'
                refine y_bi (ye_X9_shared_0 (v := v) (by omega) (by omega) (by first | (exact Or.inl ⟨by omega, by omega⟩) | (exact Or.inr (Or.inr ⟨by omega, by omega, by unfold y_Mn; omega⟩)) | (exact Or.inr (Or.inl ⟨by omega, by omega, y_Cm_c ‹y_Cm _ _ _ _› (by omega) (by omega) (by omega)⟩)) | (exact Or.inr (Or.inl ⟨by omega, by omega, y_Cm_c (y_Cm_f (kx := Int32.toNatClampNeg (p1 &&& 65535)) (x := (p1 &&& 65535).toInt) (y := (p2 &&& 65535).toInt) hU hF (by omega) (by omega) (by omega) (by omega) (by omega) (by omega)) (by omega) (by omega) (by omega)⟩)) | (exact Or.inr (Or.inl ⟨by omega, by omega, y_Cm_c (y_Cm_s (y_Cm_f (kx := Int32.toNatClampNeg (p2 &&& 65535)) (x := (p2 &&& 65535).toInt) (y := (p1 &&& 65535).toInt) hU hF (by omega) (by omega) (by omega) (by omega) (by omega) (by omega))) (by omega) (by omega) (by omega)⟩)) | (exfalso; omega) | with_reducible assumption | omega) (by first | (exact Or.inl ⟨by omega, by omega⟩) | (exact Or.inr (Or.inr ⟨by omega, by omega, by unfold y_Mn; omega⟩)) | (exact Or.inr (Or.inl ⟨by omega, by omega, y_Cm_c ‹y_Cm _ _ _ _› (by omega) (by omega) (by omega)⟩)) | (exact Or.inr (Or.inl ⟨by omega, by omega, y_Cm_c (y_Cm_f (kx := Int32.toNatClampNeg (p1 &&& 65535)) (x := (p1 &&& 65535).toInt) (y := (p2 &&& 65535).toInt) hU hF (by omega) (by omega) (by omega) (by omega) (by omega) (by omega)) (by omega) (by omega) (by omega)⟩)) | (exact Or.inr (Or.inl ⟨by omega, by omega, y_Cm_c (y_Cm_s (y_Cm_f (kx := Int32.toNatClampNeg (p2 &&& 65535)) (x := (p2 &&& 65535).toInt) (y := (p1 &&& 65535).toInt) hU hF (by omega) (by omega) (by omega) (by omega) (by omega) (by omega))) (by omega) (by omega) (by omega)⟩)) | (exfalso; omega) | with_reducible assumption | omega) (by omega) (by omega) (by omega) (by omega)) (fun r_20 h_r_20 => ?_)
                obtain ⟨h0_r_20, h1_r_20, h2_r_20⟩ := h_r_20
                have e157 : (65536 : Int32).toInt = 65536 := rfl
                try have e158 := @y_mulL (65536 : Int32) (p1 >>> (16 &&& 31)) 65536 rfl (by omega) (by omega)
                try have e159 := @y_add r_20 ((65536 : Int32) * (p1 >>> (16 &&& 31))) (by omega) (by omega)
                refine y_some ?_
                try dsimp only
                (first | (exact Or.inl ⟨by omega, by omega⟩) | (exact Or.inr (Or.inr ⟨by omega, by omega, by unfold y_Mn; omega⟩)) | (exact Or.inr (Or.inl ⟨by omega, by omega, y_Cm_c ‹y_Cm _ _ _ _› (by omega) (by omega) (by omega)⟩)) | (exact Or.inr (Or.inl ⟨by omega, by omega, y_Cm_c (y_Cm_f (kx := Int32.toNatClampNeg (p1 &&& 65535)) (x := (p1 &&& 65535).toInt) (y := (p2 &&& 65535).toInt) hU hF (by omega) (by omega) (by omega) (by omega) (by omega) (by omega)) (by omega) (by omega) (by omega)⟩)) | (exact Or.inr (Or.inl ⟨by omega, by omega, y_Cm_c (y_Cm_s (y_Cm_f (kx := Int32.toNatClampNeg (p2 &&& 65535)) (x := (p2 &&& 65535).toInt) (y := (p1 &&& 65535).toInt) hU hF (by omega) (by omega) (by omega) (by omega) (by omega) (by omega))) (by omega) (by omega) (by omega)⟩)) | (exfalso; omega) | with_reducible assumption | omega)
          · skip
            have c106' := c106
            rw [← Int32.toInt_inj] at c106'
            refine y_if (fun c160 => ?_) (fun c160 => ?_)
            · skip
              have e161 := y_and16 p1
              have e162 : (65528 : Int32).toInt = 65528 := rfl
              have c160' := c160
              rw [Int32.lt_iff_toInt_lt] at c160'
              refine y_if (fun c163 => ?_) (fun c163 => ?_)
              · skip
                have e164 := y_and16 p2
                have c163' := c163
                rw [Int32.lt_iff_toInt_lt] at c163'
                have e165 : (65536 : Int32).toInt = 65536 := rfl
                try have e166 := @y_min (p2 >>> (16 &&& 31)) (p1 >>> (16 &&& 31))
                try have e167 := @y_mulL (65536 : Int32) (if ((p2 >>> (16 &&& 31)) < (p1 >>> (16 &&& 31))) then (p2 >>> (16 &&& 31)) else (p1 >>> (16 &&& 31))) 65536 rfl (by omega) (by omega)
                refine y_some ?_
                try dsimp only
                (first | (exact Or.inl ⟨by omega, by omega⟩) | (exact Or.inr (Or.inr ⟨by omega, by omega, by unfold y_Mn; omega⟩)) | (exact Or.inr (Or.inl ⟨by omega, by omega, y_Cm_c ‹y_Cm _ _ _ _› (by omega) (by omega) (by omega)⟩)) | (exact Or.inr (Or.inl ⟨by omega, by omega, y_Cm_c (y_Cm_f (kx := Int32.toNatClampNeg (p1 &&& 65535)) (x := (p1 &&& 65535).toInt) (y := (p2 &&& 65535).toInt) hU hF (by omega) (by omega) (by omega) (by omega) (by omega) (by omega)) (by omega) (by omega) (by omega)⟩)) | (exact Or.inr (Or.inl ⟨by omega, by omega, y_Cm_c (y_Cm_s (y_Cm_f (kx := Int32.toNatClampNeg (p2 &&& 65535)) (x := (p2 &&& 65535).toInt) (y := (p1 &&& 65535).toInt) hU hF (by omega) (by omega) (by omega) (by omega) (by omega) (by omega))) (by omega) (by omega) (by omega)⟩)) | (exfalso; omega) | with_reducible assumption | omega)
              · skip
                have e168 := y_and16 p2
                have c163' := c163
                rw [Int32.lt_iff_toInt_lt] at c163'
                have e169 : (65536 : Int32).toInt = 65536 := rfl
                try have e170 := @y_subL (p2 >>> (16 &&& 31)) (1 : Int32) (1) rfl (by omega) (by omega)
                try have e171 := @y_min ((p2 >>> (16 &&& 31)) - (1 : Int32)) (p1 >>> (16 &&& 31))
                try have e172 := @y_mulL (65536 : Int32) (if (((p2 >>> (16 &&& 31)) - (1 : Int32)) < (p1 >>> (16 &&& 31))) then ((p2 >>> (16 &&& 31)) - (1 : Int32)) else (p1 >>> (16 &&& 31))) 65536 rfl (by omega) (by omega)
                refine y_some ?_
                try dsimp only
                (first | (exact Or.inl ⟨by omega, by omega⟩) | (exact Or.inr (Or.inr ⟨by omega, by omega, by unfold y_Mn; omega⟩)) | (exact Or.inr (Or.inl ⟨by omega, by omega, y_Cm_c ‹y_Cm _ _ _ _› (by omega) (by omega) (by omega)⟩)) | (exact Or.inr (Or.inl ⟨by omega, by omega, y_Cm_c (y_Cm_f (kx := Int32.toNatClampNeg (p1 &&& 65535)) (x := (p1 &&& 65535).toInt) (y := (p2 &&& 65535).toInt) hU hF (by omega) (by omega) (by omega) (by omega) (by omega) (by omega)) (by omega) (by omega) (by omega)⟩)) | (exact Or.inr (Or.inl ⟨by omega, by omega, y_Cm_c (y_Cm_s (y_Cm_f (kx := Int32.toNatClampNeg (p2 &&& 65535)) (x := (p2 &&& 65535).toInt) (y := (p1 &&& 65535).toInt) hU hF (by omega) (by omega) (by omega) (by omega) (by omega) (by omega))) (by omega) (by omega) (by omega)⟩)) | (exfalso; omega) | with_reducible assumption | omega)
            · skip
              have e173 := y_and16 p1
              have e174 : (65528 : Int32).toInt = 65528 := rfl
              have c160' := c160
              rw [Int32.lt_iff_toInt_lt] at c160'
              refine y_if (fun c175 => ?_) (fun c175 => ?_)
              · skip
                have e176 := y_and16 p2
                have c175' := c175
                rw [Int32.lt_iff_toInt_lt] at c175'
                have e177 : (65536 : Int32).toInt = 65536 := rfl
                try have e178 := @y_subL (p1 >>> (16 &&& 31)) (1 : Int32) (1) rfl (by omega) (by omega)
                try have e179 := @y_min (p2 >>> (16 &&& 31)) ((p1 >>> (16 &&& 31)) - (1 : Int32))
                try have e180 := @y_mulL (65536 : Int32) (if ((p2 >>> (16 &&& 31)) < ((p1 >>> (16 &&& 31)) - (1 : Int32))) then (p2 >>> (16 &&& 31)) else ((p1 >>> (16 &&& 31)) - (1 : Int32))) 65536 rfl (by omega) (by omega)
                refine y_some ?_
                try dsimp only
                (first | (exact Or.inl ⟨by omega, by omega⟩) | (exact Or.inr (Or.inr ⟨by omega, by omega, by unfold y_Mn; omega⟩)) | (exact Or.inr (Or.inl ⟨by omega, by omega, y_Cm_c ‹y_Cm _ _ _ _› (by omega) (by omega) (by omega)⟩)) | (exact Or.inr (Or.inl ⟨by omega, by omega, y_Cm_c (y_Cm_f (kx := Int32.toNatClampNeg (p1 &&& 65535)) (x := (p1 &&& 65535).toInt) (y := (p2 &&& 65535).toInt) hU hF (by omega) (by omega) (by omega) (by omega) (by omega) (by omega)) (by omega) (by omega) (by omega)⟩)) | (exact Or.inr (Or.inl ⟨by omega, by omega, y_Cm_c (y_Cm_s (y_Cm_f (kx := Int32.toNatClampNeg (p2 &&& 65535)) (x := (p2 &&& 65535).toInt) (y := (p1 &&& 65535).toInt) hU hF (by omega) (by omega) (by omega) (by omega) (by omega) (by omega))) (by omega) (by omega) (by omega)⟩)) | (exfalso; omega) | with_reducible assumption | omega)
              · skip
                have e181 := y_and16 p2
                have c175' := c175
                rw [Int32.lt_iff_toInt_lt] at c175'
                have e182 : (65536 : Int32).toInt = 65536 := rfl
                try have e183 := @y_subL (p2 >>> (16 &&& 31)) (1 : Int32) (1) rfl (by omega) (by omega)
                try have e184 := @y_subL (p1 >>> (16 &&& 31)) (1 : Int32) (1) rfl (by omega) (by omega)
                try have e185 := @y_min ((p2 >>> (16 &&& 31)) - (1 : Int32)) ((p1 >>> (16 &&& 31)) - (1 : Int32))
                try have e186 := @y_mulL (65536 : Int32) (if (((p2 >>> (16 &&& 31)) - (1 : Int32)) < ((p1 >>> (16 &&& 31)) - (1 : Int32))) then ((p2 >>> (16 &&& 31)) - (1 : Int32)) else ((p1 >>> (16 &&& 31)) - (1 : Int32))) 65536 rfl (by omega) (by omega)
                refine y_some ?_
                try dsimp only
                (first | (exact Or.inl ⟨by omega, by omega⟩) | (exact Or.inr (Or.inr ⟨by omega, by omega, by unfold y_Mn; omega⟩)) | (exact Or.inr (Or.inl ⟨by omega, by omega, y_Cm_c ‹y_Cm _ _ _ _› (by omega) (by omega) (by omega)⟩)) | (exact Or.inr (Or.inl ⟨by omega, by omega, y_Cm_c (y_Cm_f (kx := Int32.toNatClampNeg (p1 &&& 65535)) (x := (p1 &&& 65535).toInt) (y := (p2 &&& 65535).toInt) hU hF (by omega) (by omega) (by omega) (by omega) (by omega) (by omega)) (by omega) (by omega) (by omega)⟩)) | (exact Or.inr (Or.inl ⟨by omega, by omega, y_Cm_c (y_Cm_s (y_Cm_f (kx := Int32.toNatClampNeg (p2 &&& 65535)) (x := (p2 &&& 65535).toInt) (y := (p1 &&& 65535).toInt) hU hF (by omega) (by omega) (by omega) (by omega) (by omega) (by omega))) (by omega) (by omega) (by omega)⟩)) | (exfalso; omega) | with_reducible assumption | omega)
set_option maxHeartbeats 4000000 in
theorem ye_X9_add {v9_0 : Int32} {v9_1 : Int32} {g9_4 : Nat → Int32} {g9_5 : Nat → Int32} {p1 : Int32} {p2 : Int32} (k0 : 4 ≤ v9_1.toInt) (k1 : v9_1.toInt ≤ 200) (hU : y_Up g9_4) (hF : y_Fa v9_1.toInt g9_4 g9_5) : y_Ok (f_X9_add v9_0 v9_1 g9_4 g9_5 p1 p2) (fun r => (y_Fa r.2.2.1.toInt r.2.2.2.1 r.2.2.2.2)) := by
  have hcv := @y_cl v9_1 (by omega)
  unfold f_X9_add
  refine y_bi (y_X9_isClass) (fun r_1 h_r_1 => ?_)
  have h0_r_1 : (r_1.toInt = 0 ∧ ¬ (0 ≤ p1.toInt ∧ p1.toInt < v9_1.toInt)) ∨ (r_1.toInt = 1 ∧ (0 ≤ p1.toInt ∧ p1.toInt < v9_1.toInt)) := h_r_1
  refine y_if (fun c1 => ?_) (fun c1 => ?_)
  · skip
    have e2 : (0 : Int32).toInt = 0 := rfl
    have c1' := c1
    rw [← Int32.toInt_inj] at c1'
    have e3 := y_or0 h0_r_1 c1'
    clear h0_r_1
    refine y_bi (y_X9_bad) (fun r_3 h_r_3 => ?_)
    obtain ⟨h0_r_3, h1_r_3⟩ := h_r_3
    refine y_some ?_
    try dsimp only
    (first | with_reducible assumption | (exact y_Fa_add (kk := Int32.toNatClampNeg p1) hU hF (by omega) (by omega) (by omega) (by omega) (by omega) (Or.inr (by omega)) (by omega)) | (exact y_Fa_add (kk := Int32.toNatClampNeg p1) hU hF (by omega) (by omega) (by omega) (by omega) (by omega) (Or.inl (by rw [show p2 = 0 by with_reducible assumption]; rfl)) (by omega)) | omega | (exfalso; omega))
  · skip
    have e4 : (0 : Int32).toInt = 0 := rfl
    have c1' := c1
    rw [← Int32.toInt_inj] at c1'
    have e5 := y_or1 h0_r_1 c1'
    clear h0_r_1
    have hcp := @y_cl p1 (by omega)
    refine y_gd (y_gdI (by omega) (by omega)) ?_
    refine y_if (fun c6 => ?_) (fun c6 => ?_)
    · skip
      try have e7 := @y_cl p1 (by omega)
      have c6' := c6
      rw [← Int32.toInt_inj] at c6'
      refine y_if (fun c8 => ?_) (fun c8 => ?_)
      · skip
        have c8' := c8
        rw [← Int32.toInt_inj] at c8'
        refine y_if (fun c9 => ?_) (fun c9 => ?_)
        · skip
          have e10 : (200 : Int32).toInt = 200 := rfl
          have c9' := c9
          rw [← Int32.toInt_inj] at c9'
          refine y_bi (y_X9_full) (fun r_11 h_r_11 => ?_)
          obtain ⟨h0_r_11, h1_r_11⟩ := h_r_11
          refine y_some ?_
          try dsimp only
          (first | with_reducible assumption | (exact y_Fa_add (kk := Int32.toNatClampNeg p1) hU hF (by omega) (by omega) (by omega) (by omega) (by omega) (Or.inr (by omega)) (by omega)) | (exact y_Fa_add (kk := Int32.toNatClampNeg p1) hU hF (by omega) (by omega) (by omega) (by omega) (by omega) (Or.inl (by rw [show p2 = 0 by with_reducible assumption]; rfl)) (by omega)) | omega | (exfalso; omega))
        · skip
          have e11 : (200 : Int32).toInt = 200 := rfl
          have c9' := c9
          rw [← Int32.toInt_inj] at c9'
          refine y_gd (y_gdI (by omega) (by omega)) ?_
          refine y_gd (y_gdI (by omega) (by omega)) ?_
          try have e12 := @y_addL v9_1 (1 : Int32) (1) rfl (by omega) (by omega)
          try have e13 := @y_cl v9_1 (by omega)
          try have e15 := @y_nb p2 (by omega) (by omega)
          refine y_some ?_
          try dsimp only
          (first | with_reducible assumption | (exact y_Fa_add (kk := Int32.toNatClampNeg p1) hU hF (by omega) (by omega) (by omega) (by omega) (by omega) (Or.inr (by omega)) (by omega)) | (exact y_Fa_add (kk := Int32.toNatClampNeg p1) hU hF (by omega) (by omega) (by omega) (by omega) (by omega) (Or.inl (by rw [show p2 = 0 by with_reducible assumption]; rfl)) (by omega)) | omega | (exfalso; omega))
      · skip
        have c8' := c8
        rw [← Int32.toInt_inj] at c8'
        refine y_if (fun c16 => ?_) (fun c16 => ?_)
        · skip
          have c16' := c16
          rw [← Int32.toInt_inj] at c16'
          refine y_if (fun c17 => ?_) (fun c17 => ?_)
          · skip
            have e18 : (200 : Int32).toInt = 200 := rfl
            have c17' := c17
            rw [← Int32.toInt_inj] at c17'
            refine y_bi (y_X9_full) (fun r_16 h_r_16 => ?_)
            obtain ⟨h0_r_16, h1_r_16⟩ := h_r_16
            refine y_some ?_
            try dsimp only
            (first | with_reducible assumption | (exact y_Fa_add (kk := Int32.toNatClampNeg p1) hU hF (by omega) (by omega) (by omega) (by omega) (by omega) (Or.inr (by omega)) (by omega)) | (exact y_Fa_add (kk := Int32.toNatClampNeg p1) hU hF (by omega) (by omega) (by omega) (by omega) (by omega) (Or.inl (by rw [show p2 = 0 by with_reducible assumption]; rfl)) (by omega)) | omega | (exfalso; omega))
          · skip
            have e19 : (200 : Int32).toInt = 200 := rfl
            have c17' := c17
            rw [← Int32.toInt_inj] at c17'
            refine y_gd (y_gdI (by omega) (by omega)) ?_
            refine y_gd (y_gdI (by omega) (by omega)) ?_
            try have e20 := @y_addL v9_1 (1 : Int32) (1) rfl (by omega) (by omega)
            try have e21 := @y_cl v9_1 (by omega)
            try have e23 := @y_nb p2 (by omega) (by omega)
            refine y_some ?_
            try dsimp only
            (first | with_reducible assumption | (exact y_Fa_add (kk := Int32.toNatClampNeg p1) hU hF (by omega) (by omega) (by omega) (by omega) (by omega) (Or.inr (by omega)) (by omega)) | (exact y_Fa_add (kk := Int32.toNatClampNeg p1) hU hF (by omega) (by omega) (by omega) (by omega) (by omega) (Or.inl (by rw [show p2 = 0 by with_reducible assumption]; rfl)) (by omega)) | omega | (exfalso; omega))
        · skip
          have c16' := c16
          rw [← Int32.toInt_inj] at c16'
          refine y_bi (y_X9_bad) (fun r_17 h_r_17 => ?_)
          obtain ⟨h0_r_17, h1_r_17⟩ := h_r_17
          refine y_some ?_
          try dsimp only
          (first | with_reducible assumption | (exact y_Fa_add (kk := Int32.toNatClampNeg p1) hU hF (by omega) (by omega) (by omega) (by omega) (by omega) (Or.inr (by omega)) (by omega)) | (exact y_Fa_add (kk := Int32.toNatClampNeg p1) hU hF (by omega) (by omega) (by omega) (by omega) (by omega) (Or.inl (by rw [show p2 = 0 by with_reducible assumption]; rfl)) (by omega)) | omega | (exfalso; omega))
    · skip
      try have e24 := @y_cl p1 (by omega)
      have c6' := c6
      rw [← Int32.toInt_inj] at c6'
      refine y_bi (y_X9_bad) (fun r_6 h_r_6 => ?_)
      obtain ⟨h0_r_6, h1_r_6⟩ := h_r_6
      refine y_some ?_
      try dsimp only
      (first | with_reducible assumption | (exact y_Fa_add (kk := Int32.toNatClampNeg p1) hU hF (by omega) (by omega) (by omega) (by omega) (by omega) (Or.inr (by omega)) (by omega)) | (exact y_Fa_add (kk := Int32.toNatClampNeg p1) hU hF (by omega) (by omega) (by omega) (by omega) (by omega) (Or.inl (by rw [show p2 = 0 by with_reducible assumption]; rfl)) (by omega)) | omega | (exfalso; omega))
set_option maxHeartbeats 4000000 in
theorem ex_common {v7_2 : Int32} {g7_0 : Nat → Int32} {p1 : Int32} {p2 : Int32} {v9_0 : Int32} {g9_4 : Nat → Int32} {g7_1 : Nat → Int32} (k0 : 4 ≤ v7_2.toInt) (k1 : v7_2.toInt ≤ 200) (hU : y_Up g9_4) (hab : y_Ab g7_0 g9_4) (hF : y_Fa v7_2.toInt g9_4 g7_1) : y_Ok ((f_X8_common v7_2 g7_0 p1 p2) >>= (fun R => (f_X9_common v9_0 v7_2 g9_4 g7_1 p1 p2) >>= (fun S => some (R.1, R.2, S.1, S.2)))) (fun r => (r.2.2.2.toInt = r.1.toInt) ∧ (¬ r.1.toInt = 0 ∨ r.2.1.toInt = r.2.2.1.toInt)) := by
  unfold f_X8_common f_X9_common
  refine y_bt ?_
  refine y_bi (y_X7_isReference (by omega) (by omega)) (fun r_1 h_r_1 => ?_)
  have h0_r_1 : (r_1.toInt = 0 ∧ ¬ ((0 ≤ p1.toInt ∧ p1.toInt < 16777216 ∧ (p1.toInt % 65536 < v7_2.toInt ∨ 65528 ≤ p1.toInt % 65536)) ∧ ¬ (65528 ≤ p1.toInt ∧ p1.toInt < 65536))) ∨ (r_1.toInt = 1 ∧ ((0 ≤ p1.toInt ∧ p1.toInt < 16777216 ∧ (p1.toInt % 65536 < v7_2.toInt ∨ 65528 ≤ p1.toInt % 65536)) ∧ ¬ (65528 ≤ p1.toInt ∧ p1.toInt < 65536))) := h_r_1
  refine y_if (fun c1 => ?_) (fun c1 => ?_)
  · skip
    have e2 : (0 : Int32).toInt = 0 := rfl
    have c1' := c1
    rw [← Int32.toInt_inj] at c1'
    have e3 := y_or0 h0_r_1 c1'
    clear h0_r_1
    refine y_some ?_
    try dsimp only
    refine y_bt ?_
    refine y_bi (y_X9_isType (by omega) (by omega)) (fun s_1 h_s_1 => ?_)
    have h0_s_1 : (s_1.toInt = 0 ∧ ¬ (0 ≤ p1.toInt ∧ p1.toInt < 16777216 ∧ (p1.toInt % 65536 < v7_2.toInt ∨ 65528 ≤ p1.toInt % 65536))) ∨ (s_1.toInt = 1 ∧ (0 ≤ p1.toInt ∧ p1.toInt < 16777216 ∧ (p1.toInt % 65536 < v7_2.toInt ∨ 65528 ≤ p1.toInt % 65536))) := h_s_1
    refine y_if (fun c4 => ?_) (fun c4 => ?_)
    · skip
      have c4' := c4
      rw [← Int32.toInt_inj] at c4'
      have e5 := y_or0 h0_s_1 c4'
      clear h0_s_1
      refine y_bi (y_X9_bad) (fun s_3 h_s_3 => ?_)
      obtain ⟨h0_s_3, h1_s_3⟩ := h_s_3
      refine y_some ?_
      try dsimp only
      have e6 : (1 : Int32).toInt = 1 := rfl
      refine y_some ?_
      try dsimp only
      refine ⟨?_, ?_⟩ <;> (first | with_reducible rfl | with_reducible assumption | omega | (exfalso; omega) | (exact Or.inr (y_Sh_1 h_r_5 h_s_12)) | (exfalso; with_reducible contradiction))
    · skip
      have c4' := c4
      rw [← Int32.toInt_inj] at c4'
      have e7 := y_or1 h0_s_1 c4'
      clear h0_s_1
      refine y_bi (y_X9_isType (by omega) (by omega)) (fun s_4 h_s_4 => ?_)
      have h0_s_4 : (s_4.toInt = 0 ∧ ¬ (0 ≤ p2.toInt ∧ p2.toInt < 16777216 ∧ (p2.toInt % 65536 < v7_2.toInt ∨ 65528 ≤ p2.toInt % 65536))) ∨ (s_4.toInt = 1 ∧ (0 ≤ p2.toInt ∧ p2.toInt < 16777216 ∧ (p2.toInt % 65536 < v7_2.toInt ∨ 65528 ≤ p2.toInt % 65536))) := h_s_4
      refine y_if (fun c8 => ?_) (fun c8 => ?_)
      · skip
        have c8' := c8
        rw [← Int32.toInt_inj] at c8'
        have e9 := y_or0 h0_s_4 c8'
        clear h0_s_4
        refine y_bi (y_X9_bad) (fun s_6 h_s_6 => ?_)
        obtain ⟨h0_s_6, h1_s_6⟩ := h_s_6
        refine y_some ?_
        try dsimp only
        have e10 : (1 : Int32).toInt = 1 := rfl
        refine y_some ?_
        try dsimp only
        refine ⟨?_, ?_⟩ <;> (first | with_reducible rfl | with_reducible assumption | omega | (exfalso; omega) | (exact Or.inr (y_Sh_1 h_r_5 h_s_12)) | (exfalso; with_reducible contradiction))
      · skip
        have c8' := c8
        rw [← Int32.toInt_inj] at c8'
        have e11 := y_or1 h0_s_4 c8'
        clear h0_s_4
        refine y_bi (y_X9_isPrimitive) (fun s_7 h_s_7 => ?_)
        have h0_s_7 : (s_7.toInt = 0 ∧ ¬ (65528 ≤ p1.toInt ∧ p1.toInt < 65536)) ∨ (s_7.toInt = 1 ∧ (65528 ≤ p1.toInt ∧ p1.toInt < 65536)) := h_s_7
        refine y_if (fun c12 => ?_) (fun c12 => ?_)
        · skip
          have c12' := c12
          rw [← Int32.toInt_inj] at c12'
          have e13 := y_or0 h0_s_7 c12'
          clear h0_s_7
          refine y_bi (y_X9_isPrimitive) (fun s_10 h_s_10 => ?_)
          have h0_s_10 : (s_10.toInt = 0 ∧ ¬ (65528 ≤ p2.toInt ∧ p2.toInt < 65536)) ∨ (s_10.toInt = 1 ∧ (65528 ≤ p2.toInt ∧ p2.toInt < 65536)) := h_s_10
          refine y_if (fun c14 => ?_) (fun c14 => ?_)
          · skip
            have c14' := c14
            rw [← Int32.toInt_inj] at c14'
            have e15 := y_or0 h0_s_10 c14'
            clear h0_s_10
            refine y_bi (ye_X9_shared (v := v7_2.toInt) (by omega) (by omega) (by first | with_reducible rfl | with_reducible assumption | omega | (exfalso; omega) | (exact Or.inr (y_Sh_1 h_r_5 h_s_12)) | (exfalso; with_reducible contradiction)) (by first | with_reducible rfl | with_reducible assumption | omega | (exfalso; omega) | (exact Or.inr (y_Sh_1 h_r_5 h_s_12)) | (exfalso; with_reducible contradiction)) (by omega) (by omega) (by omega) (by omega) (by omega) (by omega) (by omega) (by omega)) (fun s_12 h_s_12 => ?_)
            have h0_s_12 : y_Sh v7_2.toInt g9_4 p1.toInt p2.toInt s_12.toInt := h_s_12
            refine y_some ?_
            try dsimp only
            have e16 : (1 : Int32).toInt = 1 := rfl
            refine y_some ?_
            try dsimp only
            refine ⟨?_, ?_⟩ <;> (first | with_reducible rfl | with_reducible assumption | omega | (exfalso; omega) | (exact Or.inr (y_Sh_1 h_r_5 h_s_12)) | (exfalso; with_reducible contradiction))
          · skip
            have c14' := c14
            rw [← Int32.toInt_inj] at c14'
            have e17 := y_or1 h0_s_10 c14'
            clear h0_s_10
            refine y_bi (y_X9_bad) (fun s_13 h_s_13 => ?_)
            obtain ⟨h0_s_13, h1_s_13⟩ := h_s_13
            refine y_some ?_
            try dsimp only
            have e18 : (1 : Int32).toInt = 1 := rfl
            refine y_some ?_
            try dsimp only
            refine ⟨?_, ?_⟩ <;> (first | with_reducible rfl | with_reducible assumption | omega | (exfalso; omega) | (exact Or.inr (y_Sh_1 h_r_5 h_s_12)) | (exfalso; with_reducible contradiction))
        · skip
          have c12' := c12
          rw [← Int32.toInt_inj] at c12'
          have e19 := y_or1 h0_s_7 c12'
          clear h0_s_7
          refine y_bi (y_X9_bad) (fun s_9 h_s_9 => ?_)
          obtain ⟨h0_s_9, h1_s_9⟩ := h_s_9
          refine y_some ?_
          try dsimp only
          have e20 : (1 : Int32).toInt = 1 := rfl
          refine y_some ?_
          try dsimp only
          refine ⟨?_, ?_⟩ <;> (first | with_reducible rfl | with_reducible assumption | omega | (exfalso; omega) | (exact Or.inr (y_Sh_1 h_r_5 h_s_12)) | (exfalso; with_reducible contradiction))
  · skip
    have e21 : (0 : Int32).toInt = 0 := rfl
    have c1' := c1
    rw [← Int32.toInt_inj] at c1'
    have e22 := y_or1 h0_r_1 c1'
    clear h0_r_1
    refine y_bi (y_X7_isReference (by omega) (by omega)) (fun r_3 h_r_3 => ?_)
    have h0_r_3 : (r_3.toInt = 0 ∧ ¬ ((0 ≤ p2.toInt ∧ p2.toInt < 16777216 ∧ (p2.toInt % 65536 < v7_2.toInt ∨ 65528 ≤ p2.toInt % 65536)) ∧ ¬ (65528 ≤ p2.toInt ∧ p2.toInt < 65536))) ∨ (r_3.toInt = 1 ∧ ((0 ≤ p2.toInt ∧ p2.toInt < 16777216 ∧ (p2.toInt % 65536 < v7_2.toInt ∨ 65528 ≤ p2.toInt % 65536)) ∧ ¬ (65528 ≤ p2.toInt ∧ p2.toInt < 65536))) := h_r_3
    refine y_if (fun c23 => ?_) (fun c23 => ?_)
    · skip
      have c23' := c23
      rw [← Int32.toInt_inj] at c23'
      have e24 := y_or0 h0_r_3 c23'
      clear h0_r_3
      refine y_some ?_
      try dsimp only
      refine y_bt ?_
      refine y_bi (y_X9_isType (by omega) (by omega)) (fun s_1 h_s_1 => ?_)
      have h0_s_1 : (s_1.toInt = 0 ∧ ¬ (0 ≤ p1.toInt ∧ p1.toInt < 16777216 ∧ (p1.toInt % 65536 < v7_2.toInt ∨ 65528 ≤ p1.toInt % 65536))) ∨ (s_1.toInt = 1 ∧ (0 ≤ p1.toInt ∧ p1.toInt < 16777216 ∧ (p1.toInt % 65536 < v7_2.toInt ∨ 65528 ≤ p1.toInt % 65536))) := h_s_1
      refine y_if (fun c25 => ?_) (fun c25 => ?_)
      · skip
        have c25' := c25
        rw [← Int32.toInt_inj] at c25'
        have e26 := y_or0 h0_s_1 c25'
        clear h0_s_1
        refine y_bi (y_X9_bad) (fun s_3 h_s_3 => ?_)
        obtain ⟨h0_s_3, h1_s_3⟩ := h_s_3
        refine y_some ?_
        try dsimp only
        have e27 : (1 : Int32).toInt = 1 := rfl
        refine y_some ?_
        try dsimp only
        refine ⟨?_, ?_⟩ <;> (first | with_reducible rfl | with_reducible assumption | omega | (exfalso; omega) | (exact Or.inr (y_Sh_1 h_r_5 h_s_12)) | (exfalso; with_reducible contradiction))
      · skip
        have c25' := c25
        rw [← Int32.toInt_inj] at c25'
        have e28 := y_or1 h0_s_1 c25'
        clear h0_s_1
        refine y_bi (y_X9_isType (by omega) (by omega)) (fun s_4 h_s_4 => ?_)
        have h0_s_4 : (s_4.toInt = 0 ∧ ¬ (0 ≤ p2.toInt ∧ p2.toInt < 16777216 ∧ (p2.toInt % 65536 < v7_2.toInt ∨ 65528 ≤ p2.toInt % 65536))) ∨ (s_4.toInt = 1 ∧ (0 ≤ p2.toInt ∧ p2.toInt < 16777216 ∧ (p2.toInt % 65536 < v7_2.toInt ∨ 65528 ≤ p2.toInt % 65536))) := h_s_4
        refine y_if (fun c29 => ?_) (fun c29 => ?_)
        · skip
          have c29' := c29
          rw [← Int32.toInt_inj] at c29'
          have e30 := y_or0 h0_s_4 c29'
          clear h0_s_4
          refine y_bi (y_X9_bad) (fun s_6 h_s_6 => ?_)
          obtain ⟨h0_s_6, h1_s_6⟩ := h_s_6
          refine y_some ?_
          try dsimp only
          have e31 : (1 : Int32).toInt = 1 := rfl
          refine y_some ?_
          try dsimp only
          refine ⟨?_, ?_⟩ <;> (first | with_reducible rfl | with_reducible assumption | omega | (exfalso; omega) | (exact Or.inr (y_Sh_1 h_r_5 h_s_12)) | (exfalso; with_reducible contradiction))
        · skip
          have c29' := c29
          rw [← Int32.toInt_inj] at c29'
          have e32 := y_or1 h0_s_4 c29'
          clear h0_s_4
          refine y_bi (y_X9_isPrimitive) (fun s_7 h_s_7 => ?_)
          have h0_s_7 : (s_7.toInt = 0 ∧ ¬ (65528 ≤ p1.toInt ∧ p1.toInt < 65536)) ∨ (s_7.toInt = 1 ∧ (65528 ≤ p1.toInt ∧ p1.toInt < 65536)) := h_s_7
          refine y_if (fun c33 => ?_) (fun c33 => ?_)
          · skip
            have c33' := c33
            rw [← Int32.toInt_inj] at c33'
            have e34 := y_or0 h0_s_7 c33'
            clear h0_s_7
            refine y_bi (y_X9_isPrimitive) (fun s_10 h_s_10 => ?_)
            have h0_s_10 : (s_10.toInt = 0 ∧ ¬ (65528 ≤ p2.toInt ∧ p2.toInt < 65536)) ∨ (s_10.toInt = 1 ∧ (65528 ≤ p2.toInt ∧ p2.toInt < 65536)) := h_s_10
            refine y_if (fun c35 => ?_) (fun c35 => ?_)
            · skip
              have c35' := c35
              rw [← Int32.toInt_inj] at c35'
              have e36 := y_or0 h0_s_10 c35'
              clear h0_s_10
              refine y_bi (ye_X9_shared (v := v7_2.toInt) (by omega) (by omega) (by first | with_reducible rfl | with_reducible assumption | omega | (exfalso; omega) | (exact Or.inr (y_Sh_1 h_r_5 h_s_12)) | (exfalso; with_reducible contradiction)) (by first | with_reducible rfl | with_reducible assumption | omega | (exfalso; omega) | (exact Or.inr (y_Sh_1 h_r_5 h_s_12)) | (exfalso; with_reducible contradiction)) (by omega) (by omega) (by omega) (by omega) (by omega) (by omega) (by omega) (by omega)) (fun s_12 h_s_12 => ?_)
              have h0_s_12 : y_Sh v7_2.toInt g9_4 p1.toInt p2.toInt s_12.toInt := h_s_12
              refine y_some ?_
              try dsimp only
              have e37 : (1 : Int32).toInt = 1 := rfl
              refine y_some ?_
              try dsimp only
              refine ⟨?_, ?_⟩ <;> (first | with_reducible rfl | with_reducible assumption | omega | (exfalso; omega) | (exact Or.inr (y_Sh_1 h_r_5 h_s_12)) | (exfalso; with_reducible contradiction))
            · skip
              have c35' := c35
              rw [← Int32.toInt_inj] at c35'
              have e38 := y_or1 h0_s_10 c35'
              clear h0_s_10
              refine y_bi (y_X9_bad) (fun s_13 h_s_13 => ?_)
              obtain ⟨h0_s_13, h1_s_13⟩ := h_s_13
              refine y_some ?_
              try dsimp only
              have e39 : (1 : Int32).toInt = 1 := rfl
              refine y_some ?_
              try dsimp only
              refine ⟨?_, ?_⟩ <;> (first | with_reducible rfl | with_reducible assumption | omega | (exfalso; omega) | (exact Or.inr (y_Sh_1 h_r_5 h_s_12)) | (exfalso; with_reducible contradiction))
          · skip
            have c33' := c33
            rw [← Int32.toInt_inj] at c33'
            have e40 := y_or1 h0_s_7 c33'
            clear h0_s_7
            refine y_bi (y_X9_bad) (fun s_9 h_s_9 => ?_)
            obtain ⟨h0_s_9, h1_s_9⟩ := h_s_9
            refine y_some ?_
            try dsimp only
            have e41 : (1 : Int32).toInt = 1 := rfl
            refine y_some ?_
            try dsimp only
            refine ⟨?_, ?_⟩ <;> (first | with_reducible rfl | with_reducible assumption | omega | (exfalso; omega) | (exact Or.inr (y_Sh_1 h_r_5 h_s_12)) | (exfalso; with_reducible contradiction))
    · skip
      have c23' := c23
      rw [← Int32.toInt_inj] at c23'
      have e42 := y_or1 h0_r_3 c23'
      clear h0_r_3
      refine y_bi (ye_X7_sharedOf (g9_4 := g9_4) (by omega) (by omega) (by first | with_reducible rfl | with_reducible assumption | omega | (exfalso; omega) | (exact Or.inr (y_Sh_1 h_r_5 h_s_12)) | (exfalso; with_reducible contradiction)) (by first | with_reducible rfl | with_reducible assumption | omega | (exfalso; omega) | (exact Or.inr (y_Sh_1 h_r_5 h_s_12)) | (exfalso; with_reducible contradiction)) (by omega) (by omega) (by omega) (by omega) (by omega) (by omega) (by omega) (by omega)) (fun r_5 h_r_5 => ?_)
      have h0_r_5 : y_Sh v7_2.toInt g9_4 p1.toInt p2.toInt r_5.toInt := h_r_5
      refine y_some ?_
      try dsimp only
      refine y_bt ?_
      refine y_bi (y_X9_isType (by omega) (by omega)) (fun s_1 h_s_1 => ?_)
      have h0_s_1 : (s_1.toInt = 0 ∧ ¬ (0 ≤ p1.toInt ∧ p1.toInt < 16777216 ∧ (p1.toInt % 65536 < v7_2.toInt ∨ 65528 ≤ p1.toInt % 65536))) ∨ (s_1.toInt = 1 ∧ (0 ≤ p1.toInt ∧ p1.toInt < 16777216 ∧ (p1.toInt % 65536 < v7_2.toInt ∨ 65528 ≤ p1.toInt % 65536))) := h_s_1
      refine y_if (fun c43 => ?_) (fun c43 => ?_)
      · skip
        have c43' := c43
        rw [← Int32.toInt_inj] at c43'
        have e44 := y_or0 h0_s_1 c43'
        clear h0_s_1
        refine y_bi (y_X9_bad) (fun s_3 h_s_3 => ?_)
        obtain ⟨h0_s_3, h1_s_3⟩ := h_s_3
        refine y_some ?_
        try dsimp only
        refine y_some ?_
        try dsimp only
        refine ⟨?_, ?_⟩ <;> (first | with_reducible rfl | with_reducible assumption | omega | (exfalso; omega) | (exact Or.inr (y_Sh_1 h_r_5 h_s_12)) | (exfalso; with_reducible contradiction))
      · skip
        have c43' := c43
        rw [← Int32.toInt_inj] at c43'
        have e45 := y_or1 h0_s_1 c43'
        clear h0_s_1
        refine y_bi (y_X9_isType (by omega) (by omega)) (fun s_4 h_s_4 => ?_)
        have h0_s_4 : (s_4.toInt = 0 ∧ ¬ (0 ≤ p2.toInt ∧ p2.toInt < 16777216 ∧ (p2.toInt % 65536 < v7_2.toInt ∨ 65528 ≤ p2.toInt % 65536))) ∨ (s_4.toInt = 1 ∧ (0 ≤ p2.toInt ∧ p2.toInt < 16777216 ∧ (p2.toInt % 65536 < v7_2.toInt ∨ 65528 ≤ p2.toInt % 65536))) := h_s_4
        refine y_if (fun c46 => ?_) (fun c46 => ?_)
        · skip
          have c46' := c46
          rw [← Int32.toInt_inj] at c46'
          have e47 := y_or0 h0_s_4 c46'
          clear h0_s_4
          refine y_bi (y_X9_bad) (fun s_6 h_s_6 => ?_)
          obtain ⟨h0_s_6, h1_s_6⟩ := h_s_6
          refine y_some ?_
          try dsimp only
          refine y_some ?_
          try dsimp only
          refine ⟨?_, ?_⟩ <;> (first | with_reducible rfl | with_reducible assumption | omega | (exfalso; omega) | (exact Or.inr (y_Sh_1 h_r_5 h_s_12)) | (exfalso; with_reducible contradiction))
        · skip
          have c46' := c46
          rw [← Int32.toInt_inj] at c46'
          have e48 := y_or1 h0_s_4 c46'
          clear h0_s_4
          refine y_bi (y_X9_isPrimitive) (fun s_7 h_s_7 => ?_)
          have h0_s_7 : (s_7.toInt = 0 ∧ ¬ (65528 ≤ p1.toInt ∧ p1.toInt < 65536)) ∨ (s_7.toInt = 1 ∧ (65528 ≤ p1.toInt ∧ p1.toInt < 65536)) := h_s_7
          refine y_if (fun c49 => ?_) (fun c49 => ?_)
          · skip
            have c49' := c49
            rw [← Int32.toInt_inj] at c49'
            have e50 := y_or0 h0_s_7 c49'
            clear h0_s_7
            refine y_bi (y_X9_isPrimitive) (fun s_10 h_s_10 => ?_)
            have h0_s_10 : (s_10.toInt = 0 ∧ ¬ (65528 ≤ p2.toInt ∧ p2.toInt < 65536)) ∨ (s_10.toInt = 1 ∧ (65528 ≤ p2.toInt ∧ p2.toInt < 65536)) := h_s_10
            refine y_if (fun c51 => ?_) (fun c51 => ?_)
            · skip
              have c51' := c51
              rw [← Int32.toInt_inj] at c51'
              have e52 := y_or0 h0_s_10 c51'
              clear h0_s_10
              refine y_bi (ye_X9_shared (v := v7_2.toInt) (by omega) (by omega) (by first | with_reducible rfl | with_reducible assumption | omega | (exfalso; omega) | (exact Or.inr (y_Sh_1 h_r_5 h_s_12)) | (exfalso; with_reducible contradiction)) (by first | with_reducible rfl | with_reducible assumption | omega | (exfalso; omega) | (exact Or.inr (y_Sh_1 h_r_5 h_s_12)) | (exfalso; with_reducible contradiction)) (by omega) (by omega) (by omega) (by omega) (by omega) (by omega) (by omega) (by omega)) (fun s_12 h_s_12 => ?_)
              have h0_s_12 : y_Sh v7_2.toInt g9_4 p1.toInt p2.toInt s_12.toInt := h_s_12
              refine y_some ?_
              try dsimp only
              refine y_some ?_
              try dsimp only
              refine ⟨?_, ?_⟩ <;> (first | with_reducible rfl | with_reducible assumption | omega | (exfalso; omega) | (exact Or.inr (y_Sh_1 h_r_5 h_s_12)) | (exfalso; with_reducible contradiction))
            · skip
              have c51' := c51
              rw [← Int32.toInt_inj] at c51'
              have e53 := y_or1 h0_s_10 c51'
              clear h0_s_10
              refine y_bi (y_X9_bad) (fun s_13 h_s_13 => ?_)
              obtain ⟨h0_s_13, h1_s_13⟩ := h_s_13
              refine y_some ?_
              try dsimp only
              refine y_some ?_
              try dsimp only
              refine ⟨?_, ?_⟩ <;> (first | with_reducible rfl | with_reducible assumption | omega | (exfalso; omega) | (exact Or.inr (y_Sh_1 h_r_5 h_s_12)) | (exfalso; with_reducible contradiction))
          · skip
            have c49' := c49
            rw [← Int32.toInt_inj] at c49'
            have e54 := y_or1 h0_s_7 c49'
            clear h0_s_7
            refine y_bi (y_X9_bad) (fun s_9 h_s_9 => ?_)
            obtain ⟨h0_s_9, h1_s_9⟩ := h_s_9
            refine y_some ?_
            try dsimp only
            refine y_some ?_
            try dsimp only
            refine ⟨?_, ?_⟩ <;> (first | with_reducible rfl | with_reducible assumption | omega | (exfalso; omega) | (exact Or.inr (y_Sh_1 h_r_5 h_s_12)) | (exfalso; with_reducible contradiction))
def y_U3 (v7_2 : Int32) (g7_0 : Nat → Int32) (g7_1 : Nat → Int32) (v4_2 : Int32) (v4_8 : Int32) (g4_7 : Nat → Int32) (v0_6 : Int32) (v0_15 : Int32) (v0_10 : Int32) (g0_7 : Nat → Int32) (g0_12 : Nat → Int32) (g0_13 : Nat → Int32) (v9_1 : Int32) (g9_4 : Nat → Int32) (g9_5 : Nat → Int32) (v9_2 : Int32) (v9_3 : Int32) (g9_10 : Nat → Int32) (v9_18 : Int32) (v9_21 : Int32) (v9_20 : Int32) (g9_23 : Nat → Int32) (g9_27 : Nat → Int32) : Prop := y_U2 v7_2 g7_0 g7_1 v4_2 v4_8 g4_7 v0_6 v0_15 v0_10 g0_7 g0_12 g0_13 v9_1 g9_4 g9_5 v9_2 v9_3 g9_10 v9_18 v9_21 v9_20 g9_23 g9_27 ∧ y_Fa v7_2.toInt g9_4 g9_5
set_option maxHeartbeats 4000000 in
theorem u3_add {v7_2 : Int32} {g7_0 : Nat → Int32} {g7_1 : Nat → Int32} {p1 : Int32} {p2 : Int32} {v9_0 : Int32} {v9_1 : Int32} {g9_4 : Nat → Int32} {g9_5 : Nat → Int32} {v4_2 : Int32} {v4_8 : Int32} {g4_7 : Nat → Int32} {v0_6 : Int32} {v0_15 : Int32} {v0_10 : Int32} {g0_7 : Nat → Int32} {g0_12 : Nat → Int32} {g0_13 : Nat → Int32} {v9_2 : Int32} {v9_3 : Int32} {g9_10 : Nat → Int32} {v9_18 : Int32} {v9_21 : Int32} {v9_20 : Int32} {g9_23 : Nat → Int32} {g9_27 : Nat → Int32} {R : Int32 × Int32 × Int32 × (Nat → Int32) × (Nat → Int32)} {S : Int32 × Int32 × Int32 × (Nat → Int32) × (Nat → Int32)} (hu : y_U3 v7_2 g7_0 g7_1 v4_2 v4_8 g4_7 v0_6 v0_15 v0_10 g0_7 g0_12 g0_13 v9_1 g9_4 g9_5 v9_2 v9_3 g9_10 v9_18 v9_21 v9_20 g9_23 g9_27) (h7 : y_K7 v7_2 g7_0) (ha : y_Ka v9_1 g9_4) (h8 : f_X8_add v7_2 g7_0 g7_1 p1 p2 = some R) (h9 : f_X9_add v9_0 v9_1 g9_4 g9_5 p1 p2 = some S) : (S.2.1 = R.1 ∧ (R.1 = 0 → R.2.1 = S.1)) ∧ y_U3 R.2.2.1 R.2.2.2.1 R.2.2.2.2 v4_2 v4_8 g4_7 v0_6 v0_15 v0_10 g0_7 g0_12 g0_13 S.2.2.1 S.2.2.2.1 S.2.2.2.2 v9_2 v9_3 g9_10 v9_18 v9_21 v9_20 g9_23 g9_27 := by
  have h := u2_add hu.1 h7 h8 h9
  refine ⟨h.1, h.2, ?_⟩
  have ev : v7_2 = v9_1 := hu.1.1.1
  have en : R.2.2.1 = S.2.2.1 := h.2.1.1
  have hF := hu.2
  rw [ev] at hF
  rw [en]
  obtain ⟨qa_0, qa_1, qa_2⟩ := ha
  have hx := ye_X9_add (v9_0 := v9_0) (p1 := p1) (p2 := p2) qa_0 qa_1 qa_2 hF
  rw [h9] at hx
  obtain ⟨r, hr, hq⟩ := hx
  cases hr
  exact hq
set_option maxHeartbeats 4000000 in
theorem u3_field {v7_2 : Int32} {v4_2 : Int32} {g4_0 : Nat → Int32} {g4_1 : Nat → Int32} {p1 : Int32} {p2 : Int32} {v9_0 : Int32} {v9_1 : Int32} {v9_2 : Int32} {g9_6 : Nat → Int32} {g9_7 : Nat → Int32} {g7_0 : Nat → Int32} {g7_1 : Nat → Int32} {v4_8 : Int32} {g4_7 : Nat → Int32} {v0_6 : Int32} {v0_15 : Int32} {v0_10 : Int32} {g0_7 : Nat → Int32} {g0_12 : Nat → Int32} {g0_13 : Nat → Int32} {g9_4 : Nat → Int32} {g9_5 : Nat → Int32} {v9_3 : Int32} {g9_10 : Nat → Int32} {v9_18 : Int32} {v9_21 : Int32} {v9_20 : Int32} {g9_23 : Nat → Int32} {g9_27 : Nat → Int32} {g4_3 : Nat → Int32} {g4_4 : Nat → Int32} {g4_6 : Nat → Int32} {R : Int32 × Int32 × Int32 × (Nat → Int32) × (Nat → Int32)} {S : Int32 × Int32 × Int32 × (Nat → Int32) × (Nat → Int32)} (hu : y_U3 v7_2 g7_0 g7_1 v4_2 v4_8 g4_7 v0_6 v0_15 v0_10 g0_7 g0_12 g0_13 v9_1 g9_4 g9_5 v9_2 v9_3 g9_10 v9_18 v9_21 v9_20 g9_23 g9_27) (h7 : y_K7 v7_2 g7_0) (h4 : y_K4 v4_2 v4_8 g4_0 g4_1 g4_3 g4_4 g4_6 g4_7) (h8 : f_X8_field v7_2 v4_2 g4_0 g4_1 p1 p2 = some R) (h9 : f_X9_field v9_0 v9_1 v9_2 g9_6 g9_7 p1 p2 = some S) : (S.2.1 = R.1 ∧ (R.1 = 0 → R.2.1 = S.1)) ∧ y_U3 v7_2 g7_0 g7_1 R.2.2.1 v4_8 g4_7 v0_6 v0_15 v0_10 g0_7 g0_12 g0_13 v9_1 g9_4 g9_5 S.2.2.1 v9_3 g9_10 v9_18 v9_21 v9_20 g9_23 g9_27 := by
  have h := u2_field hu.1 h7 h4 h8 h9
  exact ⟨h.1, h.2, hu.2⟩
set_option maxHeartbeats 4000000 in
theorem u3_shape {v7_2 : Int32} {g7_1 : Nat → Int32} {v4_8 : Int32} {g4_3 : Nat → Int32} {g4_4 : Nat → Int32} {g4_5 : Nat → Int32} {p1 : Int32} {p2 : Int32} {p3 : Int32} {v9_0 : Int32} {v9_1 : Int32} {v9_3 : Int32} {g9_5 : Nat → Int32} {g9_8 : Nat → Int32} {g9_9 : Nat → Int32} {g9_10 : Nat → Int32} {g9_12 : Nat → Int32} {g7_0 : Nat → Int32} {v4_2 : Int32} {g4_7 : Nat → Int32} {v0_6 : Int32} {v0_15 : Int32} {v0_10 : Int32} {g0_7 : Nat → Int32} {g0_12 : Nat → Int32} {g0_13 : Nat → Int32} {g9_4 : Nat → Int32} {v9_2 : Int32} {v9_18 : Int32} {v9_21 : Int32} {v9_20 : Int32} {g9_23 : Nat → Int32} {g9_27 : Nat → Int32} {g4_0 : Nat → Int32} {g4_1 : Nat → Int32} {g4_6 : Nat → Int32} {R : Int32 × Int32 × Int32 × (Nat → Int32) × (Nat → Int32) × (Nat → Int32)} {S : Int32 × Int32 × Int32 × (Nat → Int32) × (Nat → Int32) × (Nat → Int32) × (Nat → Int32)} (hu : y_U3 v7_2 g7_0 g7_1 v4_2 v4_8 g4_7 v0_6 v0_15 v0_10 g0_7 g0_12 g0_13 v9_1 g9_4 g9_5 v9_2 v9_3 g9_10 v9_18 v9_21 v9_20 g9_23 g9_27) (h7 : y_K7 v7_2 g7_0) (h4 : y_K4 v4_2 v4_8 g4_0 g4_1 g4_3 g4_4 g4_6 g4_7) (h8 : f_X8_shape v7_2 g7_1 v4_8 g4_3 g4_4 g4_5 p1 p2 p3 = some R) (h9 : f_X9_shape v9_0 v9_1 v9_3 g9_5 g9_8 g9_9 g9_10 g9_12 p1 p2 p3 = some S) : (S.2.1 = R.1 ∧ (R.1 = 0 → R.2.1 = S.1)) ∧ y_U3 v7_2 g7_0 g7_1 v4_2 R.2.2.1 g4_7 v0_6 v0_15 v0_10 g0_7 g0_12 g0_13 v9_1 g9_4 g9_5 v9_2 S.2.2.1 S.2.2.2.2.2.1 v9_18 v9_21 v9_20 g9_23 g9_27 := by
  have h := u2_shape hu.1 h7 h4 h8 h9
  exact ⟨h.1, h.2, hu.2⟩
set_option maxHeartbeats 4000000 in
theorem u3_takes {v7_2 : Int32} {v4_8 : Int32} {g4_6 : Nat → Int32} {g4_7 : Nat → Int32} {p1 : Int32} {v9_0 : Int32} {v9_1 : Int32} {v9_3 : Int32} {g9_10 : Nat → Int32} {g9_11 : Nat → Int32} {g7_0 : Nat → Int32} {g7_1 : Nat → Int32} {v4_2 : Int32} {v0_6 : Int32} {v0_15 : Int32} {v0_10 : Int32} {g0_7 : Nat → Int32} {g0_12 : Nat → Int32} {g0_13 : Nat → Int32} {g9_4 : Nat → Int32} {g9_5 : Nat → Int32} {v9_2 : Int32} {v9_18 : Int32} {v9_21 : Int32} {v9_20 : Int32} {g9_23 : Nat → Int32} {g9_27 : Nat → Int32} {g4_0 : Nat → Int32} {g4_1 : Nat → Int32} {g4_3 : Nat → Int32} {g4_4 : Nat → Int32} {R : Int32 × Int32 × (Nat → Int32) × (Nat → Int32)} {S : Int32 × Int32 × (Nat → Int32) × (Nat → Int32)} (hu : y_U3 v7_2 g7_0 g7_1 v4_2 v4_8 g4_7 v0_6 v0_15 v0_10 g0_7 g0_12 g0_13 v9_1 g9_4 g9_5 v9_2 v9_3 g9_10 v9_18 v9_21 v9_20 g9_23 g9_27) (h7 : y_K7 v7_2 g7_0) (h4 : y_K4 v4_2 v4_8 g4_0 g4_1 g4_3 g4_4 g4_6 g4_7) (h8 : f_X8_takes v7_2 v4_8 g4_6 g4_7 p1 = some R) (h9 : f_X9_takes v9_0 v9_1 v9_3 g9_10 g9_11 p1 = some S) : (S.2.1 = R.1 ∧ (R.1 = 0 → R.2.1 = S.1)) ∧ y_U3 v7_2 g7_0 g7_1 v4_2 v4_8 R.2.2.2 v0_6 v0_15 v0_10 g0_7 g0_12 g0_13 v9_1 g9_4 g9_5 v9_2 v9_3 S.2.2.1 v9_18 v9_21 v9_20 g9_23 g9_27 := by
  have h := u2_takes hu.1 h7 h4 h8 h9
  exact ⟨h.1, h.2, hu.2⟩
set_option maxHeartbeats 4000000 in
theorem u3_method {v7_2 : Int32} {g7_1 : Nat → Int32} {v0_0 : Int32} {v0_1 : Int32} {v0_2 : Int32} {v0_3 : Int32} {v0_4 : Int32} {v0_6 : Int32} {v0_10 : Int32} {v0_15 : Int32} {p1 : Int32} {p2 : Int32} {p3 : Int32} {p4 : Int32} {p5 : Int32} {v9_0 : Int32} {v9_1 : Int32} {v9_13 : Int32} {v9_14 : Int32} {v9_15 : Int32} {v9_16 : Int32} {v9_17 : Int32} {v9_18 : Int32} {v9_20 : Int32} {v9_21 : Int32} {v9_22 : Int32} {g9_5 : Nat → Int32} {g7_0 : Nat → Int32} {v4_2 : Int32} {v4_8 : Int32} {g4_7 : Nat → Int32} {g0_7 : Nat → Int32} {g0_12 : Nat → Int32} {g0_13 : Nat → Int32} {g9_4 : Nat → Int32} {v9_2 : Int32} {v9_3 : Int32} {g9_10 : Nat → Int32} {g9_23 : Nat → Int32} {g9_27 : Nat → Int32} {R : Int32 × Int32 × Int32 × Int32 × Int32 × Int32 × Int32 × Int32 × Int32 × Int32} {S : Int32 × Int32 × Int32 × Int32 × Int32 × Int32 × Int32 × Int32 × Int32 × Int32 × Int32} (hu : y_U3 v7_2 g7_0 g7_1 v4_2 v4_8 g4_7 v0_6 v0_15 v0_10 g0_7 g0_12 g0_13 v9_1 g9_4 g9_5 v9_2 v9_3 g9_10 v9_18 v9_21 v9_20 g9_23 g9_27) (h7 : y_K7 v7_2 g7_0) (h8 : f_X8_method v7_2 g7_1 v0_0 v0_1 v0_2 v0_3 v0_4 v0_6 v0_10 v0_15 p1 p2 p3 p4 p5 = some R) (h9 : f_X9_method v9_0 v9_1 v9_13 v9_14 v9_15 v9_16 v9_17 v9_18 v9_20 v9_21 v9_22 g9_5 p1 p2 p3 p4 p5 = some S) : (S.2.1 = R.1 ∧ (R.1 = 0 → R.2.1 = S.1)) ∧ y_U3 v7_2 g7_0 g7_1 v4_2 v4_8 g4_7 R.2.2.2.2.2.2.2.1 R.2.2.2.2.2.2.2.2.2 R.2.2.2.2.2.2.2.2.1 g0_7 g0_12 g0_13 v9_1 g9_4 g9_5 v9_2 v9_3 g9_10 S.2.2.2.2.2.2.2.1 S.2.2.2.2.2.2.2.2.2.1 S.2.2.2.2.2.2.2.2.1 g9_23 g9_27 := by
  have h := u2_method hu.1 h7 h8 h9
  exact ⟨h.1, h.2, hu.2⟩
set_option maxHeartbeats 4000000 in
theorem u3_argument {v7_2 : Int32} {v0_6 : Int32} {g0_5 : Nat → Int32} {p1 : Int32} {v9_0 : Int32} {v9_1 : Int32} {v9_18 : Int32} {g9_19 : Nat → Int32} {g7_0 : Nat → Int32} {g7_1 : Nat → Int32} {v4_2 : Int32} {v4_8 : Int32} {g4_7 : Nat → Int32} {v0_15 : Int32} {v0_10 : Int32} {g0_7 : Nat → Int32} {g0_12 : Nat → Int32} {g0_13 : Nat → Int32} {g9_4 : Nat → Int32} {g9_5 : Nat → Int32} {v9_2 : Int32} {v9_3 : Int32} {g9_10 : Nat → Int32} {v9_21 : Int32} {v9_20 : Int32} {g9_23 : Nat → Int32} {g9_27 : Nat → Int32} {v0_0 : Int32} {v0_2 : Int32} {v0_3 : Int32} {v0_4 : Int32} {g0_8 : Nat → Int32} {g0_9 : Nat → Int32} {g0_11 : Nat → Int32} {n0_11 : Nat} {g0_14 : Nat → Int32} {R : Int32 × Int32 × Int32 × (Nat → Int32)} {S : Int32 × Int32 × Int32 × (Nat → Int32)} (hu : y_U3 v7_2 g7_0 g7_1 v4_2 v4_8 g4_7 v0_6 v0_15 v0_10 g0_7 g0_12 g0_13 v9_1 g9_4 g9_5 v9_2 v9_3 g9_10 v9_18 v9_21 v9_20 g9_23 g9_27) (h7 : y_K7 v7_2 g7_0) (h0 : y_K0 v0_0 v0_2 v0_3 v0_4 v0_6 v0_10 v0_15 g0_5 g0_7 g0_8 g0_9 g0_11 n0_11 g0_12 g0_13 g0_14) (h8 : f_X8_argument v7_2 v0_6 g0_5 p1 = some R) (h9 : f_X9_argument v9_0 v9_1 v9_18 g9_19 p1 = some S) : (S.2.1 = R.1 ∧ (R.1 = 0 → R.2.1 = S.1)) ∧ y_U3 v7_2 g7_0 g7_1 v4_2 v4_8 g4_7 R.2.2.1 v0_15 v0_10 g0_7 g0_12 g0_13 v9_1 g9_4 g9_5 v9_2 v9_3 g9_10 S.2.2.1 v9_21 v9_20 g9_23 g9_27 := by
  have h := u2_argument hu.1 h7 h0 h8 h9
  exact ⟨h.1, h.2, hu.2⟩
set_option maxHeartbeats 4000000 in
theorem u3_row {v7_2 : Int32} {v0_15 : Int32} {g0_14 : Nat → Int32} {p1 : Int32} {p2 : Int32} {p3 : Int32} {p4 : Int32} {v9_0 : Int32} {v9_1 : Int32} {v9_21 : Int32} {g9_29 : Nat → Int32} {g9_30 : Nat → Int32} {g9_31 : Nat → Int32} {g9_32 : Nat → Int32} {g7_0 : Nat → Int32} {g7_1 : Nat → Int32} {v4_2 : Int32} {v4_8 : Int32} {g4_7 : Nat → Int32} {v0_6 : Int32} {v0_10 : Int32} {g0_7 : Nat → Int32} {g0_12 : Nat → Int32} {g0_13 : Nat → Int32} {g9_4 : Nat → Int32} {g9_5 : Nat → Int32} {v9_2 : Int32} {v9_3 : Int32} {g9_10 : Nat → Int32} {v9_18 : Int32} {v9_20 : Int32} {g9_23 : Nat → Int32} {g9_27 : Nat → Int32} {v0_0 : Int32} {v0_2 : Int32} {v0_3 : Int32} {v0_4 : Int32} {g0_5 : Nat → Int32} {g0_8 : Nat → Int32} {g0_9 : Nat → Int32} {g0_11 : Nat → Int32} {n0_11 : Nat} {R : Int32 × Int32 × Int32 × (Nat → Int32)} {S : Int32 × Int32 × Int32 × (Nat → Int32) × (Nat → Int32) × (Nat → Int32) × (Nat → Int32)} (hu : y_U3 v7_2 g7_0 g7_1 v4_2 v4_8 g4_7 v0_6 v0_15 v0_10 g0_7 g0_12 g0_13 v9_1 g9_4 g9_5 v9_2 v9_3 g9_10 v9_18 v9_21 v9_20 g9_23 g9_27) (h7 : y_K7 v7_2 g7_0) (h0 : y_K0 v0_0 v0_2 v0_3 v0_4 v0_6 v0_10 v0_15 g0_5 g0_7 g0_8 g0_9 g0_11 n0_11 g0_12 g0_13 g0_14) (h8 : f_X8_row v7_2 v0_15 g0_14 p1 p2 p3 p4 = some R) (h9 : f_X9_row v9_0 v9_1 v9_21 g9_29 g9_30 g9_31 g9_32 p1 p2 p3 p4 = some S) : (S.2.1 = R.1 ∧ (R.1 = 0 → R.2.1 = S.1)) ∧ y_U3 v7_2 g7_0 g7_1 v4_2 v4_8 g4_7 v0_6 R.2.2.1 v0_10 g0_7 g0_12 g0_13 v9_1 g9_4 g9_5 v9_2 v9_3 g9_10 v9_18 S.2.2.1 v9_20 g9_23 g9_27 := by
  have h := u2_row hu.1 h7 h0 h8 h9
  exact ⟨h.1, h.2, hu.2⟩
set_option maxHeartbeats 4000000 in
theorem u3_put {v7_2 : Int32} {v4_2 : Int32} {v4_8 : Int32} {v0_10 : Int32} {g0_7 : Nat → Int32} {g0_8 : Nat → Int32} {g0_9 : Nat → Int32} {g0_12 : Nat → Int32} {g0_13 : Nat → Int32} {p1 : Int32} {p2 : Int32} {p3 : Int32} {v9_0 : Int32} {v9_1 : Int32} {v9_2 : Int32} {v9_3 : Int32} {v9_20 : Int32} {v9_22 : Int32} {g9_23 : Nat → Int32} {g9_24 : Nat → Int32} {g9_25 : Nat → Int32} {g9_26 : Nat → Int32} {g9_27 : Nat → Int32} {g7_0 : Nat → Int32} {g7_1 : Nat → Int32} {g4_7 : Nat → Int32} {v0_6 : Int32} {v0_15 : Int32} {g9_4 : Nat → Int32} {g9_5 : Nat → Int32} {g9_10 : Nat → Int32} {v9_18 : Int32} {v9_21 : Int32} {g4_0 : Nat → Int32} {g4_1 : Nat → Int32} {g4_3 : Nat → Int32} {g4_4 : Nat → Int32} {g4_6 : Nat → Int32} {v0_0 : Int32} {v0_2 : Int32} {v0_3 : Int32} {v0_4 : Int32} {g0_5 : Nat → Int32} {g0_11 : Nat → Int32} {n0_11 : Nat} {g0_14 : Nat → Int32} {R : Int32 × Int32 × Int32 × (Nat → Int32) × (Nat → Int32) × (Nat → Int32) × (Nat → Int32) × (Nat → Int32)} {S : Int32 × Int32 × Int32 × (Nat → Int32) × (Nat → Int32) × (Nat → Int32) × (Nat → Int32) × (Nat → Int32)} (hu : y_U3 v7_2 g7_0 g7_1 v4_2 v4_8 g4_7 v0_6 v0_15 v0_10 g0_7 g0_12 g0_13 v9_1 g9_4 g9_5 v9_2 v9_3 g9_10 v9_18 v9_21 v9_20 g9_23 g9_27) (h7 : y_K7 v7_2 g7_0) (h4 : y_K4 v4_2 v4_8 g4_0 g4_1 g4_3 g4_4 g4_6 g4_7) (h0 : y_K0 v0_0 v0_2 v0_3 v0_4 v0_6 v0_10 v0_15 g0_5 g0_7 g0_8 g0_9 g0_11 n0_11 g0_12 g0_13 g0_14) (h8 : f_X8_put v7_2 v4_2 v4_8 v0_10 g0_7 g0_8 g0_9 g0_12 g0_13 p1 p2 p3 = some R) (h9 : f_X9_put v9_0 v9_1 v9_2 v9_3 v9_20 v9_22 g9_23 g9_24 g9_25 g9_26 g9_27 p1 p2 p3 = some S) : (S.2.1 = R.1 ∧ (R.1 = 0 → R.2.1 = S.1)) ∧ y_U3 v7_2 g7_0 g7_1 v4_2 v4_8 g4_7 v0_6 v0_15 R.2.2.1 R.2.2.2.1 R.2.2.2.2.2.2.1 R.2.2.2.2.2.2.2 v9_1 g9_4 g9_5 v9_2 v9_3 g9_10 v9_18 v9_21 S.2.2.1 S.2.2.2.1 S.2.2.2.2.2.2.2 := by
  have h := u2_put hu.1 h7 h4 h0 h8 h9
  exact ⟨h.1, h.2, hu.2⟩
set_option maxHeartbeats 4000000 in
theorem u3_to {v0_10 : Int32} {g0_7 : Nat → Int32} {g0_11 : Nat → Int32} {n0_11 : Nat} {g0_12 : Nat → Int32} {g0_13 : Nat → Int32} {p1 : Int32} {v9_0 : Int32} {v9_20 : Int32} {v9_22 : Int32} {g9_23 : Nat → Int32} {g9_27 : Nat → Int32} {g9_28 : Nat → Int32} {v7_2 : Int32} {g7_0 : Nat → Int32} {g7_1 : Nat → Int32} {v4_2 : Int32} {v4_8 : Int32} {g4_7 : Nat → Int32} {v0_6 : Int32} {v0_15 : Int32} {v9_1 : Int32} {g9_4 : Nat → Int32} {g9_5 : Nat → Int32} {v9_2 : Int32} {v9_3 : Int32} {g9_10 : Nat → Int32} {v9_18 : Int32} {v9_21 : Int32} {v0_0 : Int32} {v0_2 : Int32} {v0_3 : Int32} {v0_4 : Int32} {g0_5 : Nat → Int32} {g0_8 : Nat → Int32} {g0_9 : Nat → Int32} {g0_14 : Nat → Int32} {v9_13 : Int32} {v9_15 : Int32} {v9_16 : Int32} {v9_17 : Int32} {g9_19 : Nat → Int32} {g9_24 : Nat → Int32} {g9_25 : Nat → Int32} {g9_26 : Nat → Int32} {g9_31 : Nat → Int32} {g9_32 : Nat → Int32} {R : Int32 × Int32 × (Nat → Int32) × Nat × (Nat → Int32) × Nat × Nat} {S : Int32 × Int32 × Int32 × (Nat → Int32) × (Nat → Int32)} (hu : y_U3 v7_2 g7_0 g7_1 v4_2 v4_8 g4_7 v0_6 v0_15 v0_10 g0_7 g0_12 g0_13 v9_1 g9_4 g9_5 v9_2 v9_3 g9_10 v9_18 v9_21 v9_20 g9_23 g9_27) (h0 : y_K0 v0_0 v0_2 v0_3 v0_4 v0_6 v0_10 v0_15 g0_5 g0_7 g0_8 g0_9 g0_11 n0_11 g0_12 g0_13 g0_14) (hc : y_Kc v9_13 v9_15 v9_16 v9_17 v9_18 v9_20 v9_21 v9_22 g9_19 g9_23 g9_24 g9_25 g9_26 g9_27 g9_28 g9_31 g9_32) (h8 : f_X8_to v0_10 g0_7 g0_11 n0_11 g0_12 g0_13 p1 = some R) (h9 : f_X9_to v9_0 v9_20 v9_22 g9_23 g9_27 g9_28 p1 = some S) : (S.2.1 = R.1 ∧ (R.1 = 0 → R.2.1 = S.1)) ∧ y_U3 v7_2 g7_0 g7_1 v4_2 v4_8 g4_7 v0_6 v0_15 v0_10 g0_7 g0_12 R.2.2.2.2.1 v9_1 g9_4 g9_5 v9_2 v9_3 g9_10 v9_18 v9_21 v9_20 g9_23 S.2.2.2.1 := by
  have h := u2_to hu.1 h0 hc h8 h9
  exact ⟨h.1, h.2, hu.2⟩
set_option maxHeartbeats 4000000 in
theorem u3_stands {v7_2 : Int32} {g7_0 : Nat → Int32} {g7_1 : Nat → Int32} {p1 : Int32} {p2 : Int32} {v9_0 : Int32} {v9_1 : Int32} {g9_4 : Nat → Int32} {g9_5 : Nat → Int32} {v4_2 : Int32} {v4_8 : Int32} {g4_7 : Nat → Int32} {v0_6 : Int32} {v0_15 : Int32} {v0_10 : Int32} {g0_7 : Nat → Int32} {g0_12 : Nat → Int32} {g0_13 : Nat → Int32} {v9_2 : Int32} {v9_3 : Int32} {g9_10 : Nat → Int32} {v9_18 : Int32} {v9_21 : Int32} {v9_20 : Int32} {g9_23 : Nat → Int32} {g9_27 : Nat → Int32} {R : Int32 × Int32} {S : Int32 × Int32} (hu : y_U3 v7_2 g7_0 g7_1 v4_2 v4_8 g4_7 v0_6 v0_15 v0_10 g0_7 g0_12 g0_13 v9_1 g9_4 g9_5 v9_2 v9_3 g9_10 v9_18 v9_21 v9_20 g9_23 g9_27) (h7 : y_K7 v7_2 g7_0) (ha : y_Ka v9_1 g9_4) (h8 : f_X8_stands v7_2 g7_0 g7_1 p1 p2 = some R) (h9 : f_X9_stands v9_0 v9_1 g9_4 g9_5 p1 p2 = some S) : (S.2 = R.1 ∧ (R.1 = 0 → R.2 = S.1)) ∧ y_U3 v7_2 g7_0 g7_1 v4_2 v4_8 g4_7 v0_6 v0_15 v0_10 g0_7 g0_12 g0_13 v9_1 g9_4 g9_5 v9_2 v9_3 g9_10 v9_18 v9_21 v9_20 g9_23 g9_27 := by
  have hu9 := hu
  obtain ⟨⟨hu, e1, e2, hSC⟩, hF⟩ := hu
  refine ⟨?_, hu9⟩
  obtain ⟨rfl, rfl, hab, rfl, rfl, hTK, rfl, rfl⟩ := hu
  obtain ⟨q7_0, q7_1, q7_2⟩ := h7
  obtain ⟨qa_0, qa_1, qa_2⟩ := ha
  have h := y_two (F := fun R S => (R.1, R.2, S.1, S.2)) (ex_stands (by first | with_reducible assumption | omega) (by first | with_reducible assumption | omega) (by first | with_reducible assumption | omega) (by first | with_reducible assumption | omega)) h8 h9
  dsimp only at h
  obtain ⟨e10, e11⟩ := h
  exact ⟨Int32.toInt_inj.mp e10, fun hz => Int32.toInt_inj.mp (e11.resolve_left (fun hn => hn (by rw [hz]; rfl)))⟩
set_option maxHeartbeats 4000000 in
theorem u3_common {v7_2 : Int32} {g7_0 : Nat → Int32} {p1 : Int32} {p2 : Int32} {v9_0 : Int32} {v9_1 : Int32} {g9_4 : Nat → Int32} {g9_5 : Nat → Int32} {g7_1 : Nat → Int32} {v4_2 : Int32} {v4_8 : Int32} {g4_7 : Nat → Int32} {v0_6 : Int32} {v0_15 : Int32} {v0_10 : Int32} {g0_7 : Nat → Int32} {g0_12 : Nat → Int32} {g0_13 : Nat → Int32} {v9_2 : Int32} {v9_3 : Int32} {g9_10 : Nat → Int32} {v9_18 : Int32} {v9_21 : Int32} {v9_20 : Int32} {g9_23 : Nat → Int32} {g9_27 : Nat → Int32} {R : Int32 × Int32} {S : Int32 × Int32} (hu : y_U3 v7_2 g7_0 g7_1 v4_2 v4_8 g4_7 v0_6 v0_15 v0_10 g0_7 g0_12 g0_13 v9_1 g9_4 g9_5 v9_2 v9_3 g9_10 v9_18 v9_21 v9_20 g9_23 g9_27) (h7 : y_K7 v7_2 g7_0) (ha : y_Ka v9_1 g9_4) (h8 : f_X8_common v7_2 g7_0 p1 p2 = some R) (h9 : f_X9_common v9_0 v9_1 g9_4 g9_5 p1 p2 = some S) : (S.2 = R.1 ∧ (R.1 = 0 → R.2 = S.1)) ∧ y_U3 v7_2 g7_0 g7_1 v4_2 v4_8 g4_7 v0_6 v0_15 v0_10 g0_7 g0_12 g0_13 v9_1 g9_4 g9_5 v9_2 v9_3 g9_10 v9_18 v9_21 v9_20 g9_23 g9_27 := by
  have hu9 := hu
  obtain ⟨⟨hu, e1, e2, hSC⟩, hF⟩ := hu
  refine ⟨?_, hu9⟩
  obtain ⟨rfl, rfl, hab, rfl, rfl, hTK, rfl, rfl⟩ := hu
  obtain ⟨q7_0, q7_1, q7_2⟩ := h7
  obtain ⟨qa_0, qa_1, qa_2⟩ := ha
  have h := y_two (F := fun R S => (R.1, R.2, S.1, S.2)) (ex_common (by first | with_reducible assumption | omega) (by first | with_reducible assumption | omega) (by first | with_reducible assumption | omega) (by first | with_reducible assumption | omega) (by first | with_reducible assumption | omega)) h8 h9
  dsimp only at h
  obtain ⟨e10, e11⟩ := h
  exact ⟨Int32.toInt_inj.mp e10, fun hz => Int32.toInt_inj.mp (e11.resolve_left (fun hn => hn (by rw [hz]; rfl)))⟩
