/-! the chain of CLASSES upwards -/
def y_Be (g : Nat → Int32) (y : Int) : Nat → Int → Prop
  | 0, _ => False
  | n + 1, x => x = y ∨ (0 < x ∧ y_Be g y n (g x.toNat).toInt)
theorem y_Be_fuel {g : Nat → Int32} {y : Int} (hU : y_Up g) : ∀ (n m : Nat) (x : Int), 0 ≤ x → x < 200 → x < n → x < m → (y_Be g y n x ↔ y_Be g y m x) := by
  intro n
  induction n with
  | zero => intro m x h0 h2 h1; omega
  | succ n ih =>
    intro m x h0 h2 h1 h3
    obtain ⟨m, rfl⟩ : ∃ k, m = k + 1 := ⟨m - 1, by omega⟩
    unfold y_Be
    by_cases e : 0 < x
    · have a := hU.2 x.toNat (by omega) (by omega)
      have b := ih m (g x.toNat).toInt (by omega) (by omega) (by omega) (by omega)
      constructor
      · rintro (h | h)
        · exact Or.inl h
        · exact Or.inr ⟨h.1, b.mp h.2⟩
      · rintro (h | h)
        · exact Or.inl h
        · exact Or.inr ⟨h.1, b.mpr h.2⟩
    · constructor
      · rintro (h | h)
        · exact Or.inl h
        · exact absurd h.1 e
      · rintro (h | h)
        · exact Or.inl h
        · exact absurd h.1 e
def y_B (g : Nat → Int32) (y x : Int) : Prop := y_Be g y 201 x
theorem y_B_eq {g : Nat → Int32} {y x : Int} (h : x = y) : y_B g y x := Or.inl h
theorem y_B_neg {g : Nat → Int32} {y x : Int} (h : x < 0) (h0 : 0 ≤ y) : ¬ y_B g y x := by
  intro hb
  have hb : x = y ∨ (0 < x ∧ y_Be g y 200 (g x.toNat).toInt) := hb
  rcases hb with e | e
  · omega
  · omega
theorem y_B_next {g : Nat → Int32} {y x : Int} {k : Nat} (hU : y_Up g) (hk : (k : Int) = x) (h2 : x < 200) (hn : ¬ x = y) (h0 : 0 ≤ y) : y_B g y x ↔ y_B g y (g k).toInt := by
  have ek : x.toNat = k := by omega
  by_cases e : 0 < x
  · have a := hU.2 k (by omega) (by omega)
    have f := y_Be_fuel (y := y) hU 200 201 (g k).toInt (by omega) (by omega) (by omega) (by omega)
    constructor
    · intro hb
      have hb : x = y ∨ (0 < x ∧ y_Be g y 200 (g x.toNat).toInt) := hb
      rcases hb with h | h
      · exact absurd h hn
      · rw [ek] at h; exact f.mp h.2
    · intro hb
      refine Or.inr ⟨e, ?_⟩
      rw [ek]
      exact f.mpr hb
  · have ex : x = 0 := by omega
    have ek0 : k = 0 := by omega
    constructor
    · intro hb
      have hb : x = y ∨ (0 < x ∧ y_Be g y 200 (g x.toNat).toInt) := hb
      rcases hb with h | h
      · exact absurd h hn
      · exact absurd h.1 e
    · intro hb
      rw [ek0, hU.1] at hb
      exact absurd hb (y_B_neg (by omega) h0)
theorem y_B_lt {g : Nat → Int32} {y : Int} (hU : y_Up g) (h0 : 0 ≤ y) : ∀ (n : Nat) (x : Int), x < n → x < 200 → x < y → ¬ y_B g y x := by
  intro n
  induction n with
  | zero => intro x h1 h2 h3; exact y_B_neg (by omega) h0
  | succ n ih =>
    intro x h1 h2 h3
    by_cases e : x < 0
    · exact y_B_neg e h0
    · rw [y_B_next (k := x.toNat) hU (by omega) h2 (by omega) h0]
      by_cases e0 : x = 0
      · have : x.toNat = 0 := by omega
        rw [this, hU.1]
        exact y_B_neg (by omega) h0
      · have a := hU.2 x.toNat (by omega) (by omega)
        exact ih _ (by omega) (by omega) (by omega)
theorem y_B_le {g : Nat → Int32} {y x : Int} (hU : y_Up g) (h0 : 0 ≤ y) (h2 : x < 200) (h : x ≤ y) : y_B g y x ↔ x = y := by
  constructor
  · intro hb
    by_cases e : x = y
    · exact e
    · exact absurd hb (y_B_lt hU h0 (x.toNat + 1) x (by omega) h2 (by omega))
  · exact y_B_eq
def y_Ms (v : Int) (g f : Nat → Int32) (x y : Int) (k : Nat) : Prop := x < v ∧ y < v ∧ (y = 0 ∨ ¬ (f k).toInt = 0 ∨ y_B g y x)
def y_Mt (v : Int) (g f : Nat → Int32) (s t x y : Int) (k : Nat) : Prop := s = t ∨ (¬ (65528 ≤ s ∧ s < 65536) ∧ ¬ (65528 ≤ t ∧ t < 65536) ∧ ((t / 65536 < s / 65536 ∧ (y = 0 ∨ y = 2 ∨ y = 3)) ∨ (s / 65536 = t / 65536 ∧ y_Ms v g f x y k)))
theorem y_Mt_n {v : Int} {g f : Nat → Int32} {s t x y : Int} {k : Nat} (h1 : ¬ s = t) (h2 : (65528 ≤ s ∧ s < 65536) ∨ (65528 ≤ t ∧ t < 65536) ∨ (¬ (t / 65536 < s / 65536 ∧ (y = 0 ∨ y = 2 ∨ y = 3)) ∧ (¬ s / 65536 = t / 65536 ∨ ¬ y_Ms v g f x y k))) : ¬ y_Mt v g f s t x y k := by
  intro h
  rcases h with h | ⟨a, b, c | c⟩
  · exact h1 h
  · rcases h2 with d | d | d
    · exact a d
    · exact b d
    · exact d.1 c
  · rcases h2 with d | d | d
    · exact a d
    · exact b d
    · rcases d.2 with e | e
      · exact e c.1
      · exact e c.2
theorem y_Ms_n {v : Int} {g f : Nat → Int32} {x y : Int} {k : Nat} (h : ¬ x < v ∨ ¬ y < v) : ¬ y_Ms v g f x y k := by
  intro hm
  rcases h with h | h
  · exact h hm.1
  · exact h hm.2.1
theorem y_Ms_b {v : Int} {g f : Nat → Int32} {x y : Int} {k : Nat} (h0 : ¬ y = 0) (hf : (f k).toInt = 0) (hb : ¬ y_B g y x) : ¬ y_Ms v g f x y k := by
  intro hm
  rcases hm.2.2 with a | a | a
  · exact h0 a
  · exact a hf
  · exact hb a
theorem y_tw {P : Prop} {a b : Int} (h : (a = 0 ∧ ¬ P) ∨ (a = 1 ∧ P)) (h2 : (b = 0 ∧ ¬ P) ∨ (b = 1 ∧ P)) : a = b := by
  rcases h with ⟨h, hp⟩ | ⟨h, hp⟩ <;> rcases h2 with ⟨h2, hq⟩ | ⟨h2, hq⟩ <;> first | omega | (exact absurd hp hq) | (exact absurd hq hp)
set_option maxHeartbeats 4000000 in
theorem ye_X9_below_L_0_i {g9_4 : Nat → Int32} {l2 : Int32} (hU : y_Up g9_4) (k3 : 0 ≤ l2.toInt) : ∀ (m : Nat) {l3 : Int32}, (-1 ≤ l3.toInt) → (l3.toInt < 200) → l3.toInt + 1 < m → y_Ok (f_X9_below_L g9_4 l2 (0, l3)) (fun r => ((r.toInt = 0 ∧ ¬ (y_B g9_4 l2.toInt l3.toInt)) ∨ (r.toInt = 1 ∧ (y_B g9_4 l2.toInt l3.toInt)))) := by
  intro m
  induction m with
  | zero => intro l3 k1 k2 hm; exfalso; omega
  | succ m ih =>
    intro l3 k1 k2 hm
    rw [f_X9_below_L]
    refine y_ip rfl ?_
    refine y_if (fun c1 => ?_) (fun c1 => ?_)
    · skip
      have e2 : (0 : Int32).toInt = 0 := rfl
      have c1' := c1
      rw [Int32.lt_iff_toInt_lt] at c1'
      refine y_some ?_
      try dsimp only
      (first | (exact Or.inl ⟨by omega, y_B_neg (by omega) (by omega)⟩) | (exact Or.inr ⟨by omega, y_B_eq (by omega)⟩) | (rcases ‹(_ ∧ ¬ y_B _ _ _) ∨ (_ ∧ y_B _ _ _)› with hz | hz; exact Or.inl ⟨hz.1, fun hb => hz.2 ((y_B_next (k := Int32.toNatClampNeg l3) hU (by omega) (by omega) (by omega) (by omega)).mp hb)⟩; exact Or.inr ⟨hz.1, (y_B_next (k := Int32.toNatClampNeg l3) hU (by omega) (by omega) (by omega) (by omega)).mpr hz.2⟩) | with_reducible assumption | omega)
    · skip
      have e3 : (0 : Int32).toInt = 0 := rfl
      have c1' := c1
      rw [Int32.lt_iff_toInt_lt] at c1'
      have hlv := @y_cl l3 (by omega)
      have hua := hU.at (Int32.toNatClampNeg l3) (by omega)
      refine y_if (fun c4 => ?_) (fun c4 => ?_)
      · skip
        have c4' := c4
        rw [← Int32.toInt_inj] at c4'
        have e5 : (1 : Int32).toInt = 1 := rfl
        refine y_some ?_
        try dsimp only
        (first | (exact Or.inl ⟨by omega, y_B_neg (by omega) (by omega)⟩) | (exact Or.inr ⟨by omega, y_B_eq (by omega)⟩) | (rcases ‹(_ ∧ ¬ y_B _ _ _) ∨ (_ ∧ y_B _ _ _)› with hz | hz; exact Or.inl ⟨hz.1, fun hb => hz.2 ((y_B_next (k := Int32.toNatClampNeg l3) hU (by omega) (by omega) (by omega) (by omega)).mp hb)⟩; exact Or.inr ⟨hz.1, (y_B_next (k := Int32.toNatClampNeg l3) hU (by omega) (by omega) (by omega) (by omega)).mpr hz.2⟩) | with_reducible assumption | omega)
      · skip
        have c4' := c4
        rw [← Int32.toInt_inj] at c4'
        refine y_gd (y_gdI (by omega) (by omega)) ?_
        try have e6 := @y_cl l3 (by omega)
        try have e7 := hU.at (Int32.toNatClampNeg l3) (by omega)
        refine y_Ok.mono (ih (l3 := (g9_4 (Int32.toNatClampNeg l3))) (by omega) (by omega) (by omega)) (fun r_t7 h_r_t7 => ?_)
        (first | (exact Or.inl ⟨by omega, y_B_neg (by omega) (by omega)⟩) | (exact Or.inr ⟨by omega, y_B_eq (by omega)⟩) | (rcases ‹(_ ∧ ¬ y_B _ _ _) ∨ (_ ∧ y_B _ _ _)› with hz | hz; exact Or.inl ⟨hz.1, fun hb => hz.2 ((y_B_next (k := Int32.toNatClampNeg l3) hU (by omega) (by omega) (by omega) (by omega)).mp hb)⟩; exact Or.inr ⟨hz.1, (y_B_next (k := Int32.toNatClampNeg l3) hU (by omega) (by omega) (by omega) (by omega)).mpr hz.2⟩) | with_reducible assumption | omega)
theorem ye_X9_below_L_0 {g9_4 : Nat → Int32} {l2 : Int32} {l3 : Int32} (hU : y_Up g9_4) (k1 : -1 ≤ l3.toInt) (k2 : l3.toInt < 200) (k3 : 0 ≤ l2.toInt) : y_Ok (f_X9_below_L g9_4 l2 (0, l3)) (fun r => ((r.toInt = 0 ∧ ¬ (y_B g9_4 l2.toInt l3.toInt)) ∨ (r.toInt = 1 ∧ (y_B g9_4 l2.toInt l3.toInt)))) := ye_X9_below_L_0_i hU k3 (l3.toInt + 1 + 1).toNat k1 k2 (by omega)
set_option maxHeartbeats 4000000 in
theorem ye_X9_below {g9_4 : Nat → Int32} {p1 : Int32} {p2 : Int32} (hU : y_Up g9_4) (k1 : -1 ≤ p1.toInt) (k2 : p1.toInt < 200) (k3 : 0 ≤ p2.toInt) : y_Ok (f_X9_below g9_4 p1 p2) (fun r => ((r.toInt = 0 ∧ ¬ (y_B g9_4 p2.toInt p1.toInt)) ∨ (r.toInt = 1 ∧ (y_B g9_4 p2.toInt p1.toInt)))) := by
  unfold f_X9_below
  refine y_Ok.mono (ye_X9_below_L_0 (l3 := p1) (by first | (exact Or.inl ⟨by omega, y_B_neg (by omega) (by omega)⟩) | (exact Or.inr ⟨by omega, y_B_eq (by omega)⟩) | (rcases ‹(_ ∧ ¬ y_B _ _ _) ∨ (_ ∧ y_B _ _ _)› with hz | hz; exact Or.inl ⟨hz.1, fun hb => hz.2 ((y_B_next (k := Int32.toNatClampNeg l3) hU (by omega) (by omega) (by omega) (by omega)).mp hb)⟩; exact Or.inr ⟨hz.1, (y_B_next (k := Int32.toNatClampNeg l3) hU (by omega) (by omega) (by omega) (by omega)).mpr hz.2⟩) | with_reducible assumption | omega) (by omega) (by omega) (by omega)) (fun r_t0 h_r_t0 => ?_)
  (first | (exact Or.inl ⟨by omega, y_B_neg (by omega) (by omega)⟩) | (exact Or.inr ⟨by omega, y_B_eq (by omega)⟩) | (rcases ‹(_ ∧ ¬ y_B _ _ _) ∨ (_ ∧ y_B _ _ _)› with hz | hz; exact Or.inl ⟨hz.1, fun hb => hz.2 ((y_B_next (k := Int32.toNatClampNeg l3) hU (by omega) (by omega) (by omega) (by omega)).mp hb)⟩; exact Or.inr ⟨hz.1, (y_B_next (k := Int32.toNatClampNeg l3) hU (by omega) (by omega) (by omega) (by omega)).mpr hz.2⟩) | with_reducible assumption | omega)
set_option maxHeartbeats 4000000 in
theorem ye_X7_mayClassStand_L_0_i {v7_2 : Int32} {g7_0 : Nat → Int32} {g7_1 : Nat → Int32} {l2 : Int32} {g9_4 : Nat → Int32} (hU : y_Up g9_4) (hab : y_Ab g7_0 g9_4) (k2 : 0 ≤ l2.toInt) : ∀ (m : Nat) {l3 : Int32} {l4 : Int32}, (0 ≤ l3.toInt) → (l3.toInt < 200) → (0 ≤ l4.toInt) → (l3.toInt + l4.toInt ≤ 200) → 200 - l4.toInt < m → y_Ok (f_X7_mayClassStand_L v7_2 g7_0 g7_1 l2 (0, l3, l4)) (fun r => ((r.toInt = 0 ∧ ¬ (y_B g9_4 l2.toInt l3.toInt)) ∨ (r.toInt = 1 ∧ (y_B g9_4 l2.toInt l3.toInt)))) := by
  intro m
  induction m with
  | zero => intro l3 l4 k3 k4 k5 k6 hm; exfalso; omega
  | succ m ih =>
    intro l3 l4 k3 k4 k5 k6 hm
    rw [f_X7_mayClassStand_L]
    refine y_ip rfl ?_
    refine y_if (fun c1 => ?_) (fun c1 => ?_)
    · skip
      have e2 : (200 : Int32).toInt = 200 := rfl
      have c1' := c1
      rw [Int32.le_iff_toInt_le] at c1'
      refine y_if (fun c3 => ?_) (fun c3 => ?_)
      · skip
        have c3' := c3
        rw [← Int32.toInt_inj] at c3'
        have e4 : (1 : Int32).toInt = 1 := rfl
        refine y_some ?_
        try dsimp only
        (first | (exact Or.inr ⟨by omega, y_B_eq (by omega)⟩) | (exact Or.inl ⟨by omega, fun hb => absurd ((y_B_le hU (by omega) (by omega) (by omega)).mp hb) (by omega)⟩) | (rcases ‹(_ ∧ ¬ y_B _ _ _) ∨ (_ ∧ y_B _ _ _)› with hz | hz; exact Or.inl ⟨hz.1, fun hb => hz.2 (by rw [heq]; exact (y_B_next (k := Int32.toNatClampNeg l3) hU (by omega) (by omega) (by omega) (by omega)).mp hb)⟩; exact Or.inr ⟨hz.1, (y_B_next (k := Int32.toNatClampNeg l3) hU (by omega) (by omega) (by omega) (by omega)).mpr (by rw [← heq]; exact hz.2)⟩) | with_reducible assumption | omega)
      · skip
        have c3' := c3
        rw [← Int32.toInt_inj] at c3'
        have e5 : (0 : Int32).toInt = 0 := rfl
        refine y_some ?_
        try dsimp only
        (first | (exact Or.inr ⟨by omega, y_B_eq (by omega)⟩) | (exact Or.inl ⟨by omega, fun hb => absurd ((y_B_le hU (by omega) (by omega) (by omega)).mp hb) (by omega)⟩) | (rcases ‹(_ ∧ ¬ y_B _ _ _) ∨ (_ ∧ y_B _ _ _)› with hz | hz; exact Or.inl ⟨hz.1, fun hb => hz.2 (by rw [heq]; exact (y_B_next (k := Int32.toNatClampNeg l3) hU (by omega) (by omega) (by omega) (by omega)).mp hb)⟩; exact Or.inr ⟨hz.1, (y_B_next (k := Int32.toNatClampNeg l3) hU (by omega) (by omega) (by omega) (by omega)).mpr (by rw [← heq]; exact hz.2)⟩) | with_reducible assumption | omega)
    · skip
      have e6 : (200 : Int32).toInt = 200 := rfl
      have c1' := c1
      rw [Int32.le_iff_toInt_le] at c1'
      refine y_if (fun c7 => ?_) (fun c7 => ?_)
      · skip
        have c7' := c7
        rw [Int32.le_iff_toInt_le] at c7'
        refine y_if (fun c8 => ?_) (fun c8 => ?_)
        · skip
          have c8' := c8
          rw [← Int32.toInt_inj] at c8'
          have e9 : (1 : Int32).toInt = 1 := rfl
          refine y_some ?_
          try dsimp only
          (first | (exact Or.inr ⟨by omega, y_B_eq (by omega)⟩) | (exact Or.inl ⟨by omega, fun hb => absurd ((y_B_le hU (by omega) (by omega) (by omega)).mp hb) (by omega)⟩) | (rcases ‹(_ ∧ ¬ y_B _ _ _) ∨ (_ ∧ y_B _ _ _)› with hz | hz; exact Or.inl ⟨hz.1, fun hb => hz.2 (by rw [heq]; exact (y_B_next (k := Int32.toNatClampNeg l3) hU (by omega) (by omega) (by omega) (by omega)).mp hb)⟩; exact Or.inr ⟨hz.1, (y_B_next (k := Int32.toNatClampNeg l3) hU (by omega) (by omega) (by omega) (by omega)).mpr (by rw [← heq]; exact hz.2)⟩) | with_reducible assumption | omega)
        · skip
          have c8' := c8
          rw [← Int32.toInt_inj] at c8'
          have e10 : (0 : Int32).toInt = 0 := rfl
          refine y_some ?_
          try dsimp only
          (first | (exact Or.inr ⟨by omega, y_B_eq (by omega)⟩) | (exact Or.inl ⟨by omega, fun hb => absurd ((y_B_le hU (by omega) (by omega) (by omega)).mp hb) (by omega)⟩) | (rcases ‹(_ ∧ ¬ y_B _ _ _) ∨ (_ ∧ y_B _ _ _)› with hz | hz; exact Or.inl ⟨hz.1, fun hb => hz.2 (by rw [heq]; exact (y_B_next (k := Int32.toNatClampNeg l3) hU (by omega) (by omega) (by omega) (by omega)).mp hb)⟩; exact Or.inr ⟨hz.1, (y_B_next (k := Int32.toNatClampNeg l3) hU (by omega) (by omega) (by omega) (by omega)).mpr (by rw [← heq]; exact hz.2)⟩) | with_reducible assumption | omega)
      · skip
        have c7' := c7
        rw [Int32.le_iff_toInt_le] at c7'
        have hl3 := @y_cl l3 (by omega)
        have heq := hab (Int32.toNatClampNeg l3) (by omega)
        have hupk := hU.2 (Int32.toNatClampNeg l3) (by omega) (by omega)
        rw [← heq] at hupk
        refine y_gd (y_gdI (by omega) (by omega)) ?_
        try have e11 := @y_cl l3 (by omega)
        try have e12 := @y_addL l4 (1 : Int32) (1) rfl (by omega) (by omega)
        refine y_Ok.mono (ih (l3 := (g7_0 (Int32.toNatClampNeg l3))) (l4 := (l4 + 1)) (by omega) (by omega) (by omega) (by omega) (by omega)) (fun r_t12 h_r_t12 => ?_)
        (first | (exact Or.inr ⟨by omega, y_B_eq (by omega)⟩) | (exact Or.inl ⟨by omega, fun hb => absurd ((y_B_le hU (by omega) (by omega) (by omega)).mp hb) (by omega)⟩) | (rcases ‹(_ ∧ ¬ y_B _ _ _) ∨ (_ ∧ y_B _ _ _)› with hz | hz; exact Or.inl ⟨hz.1, fun hb => hz.2 (by rw [heq]; exact (y_B_next (k := Int32.toNatClampNeg l3) hU (by omega) (by omega) (by omega) (by omega)).mp hb)⟩; exact Or.inr ⟨hz.1, (y_B_next (k := Int32.toNatClampNeg l3) hU (by omega) (by omega) (by omega) (by omega)).mpr (by rw [← heq]; exact hz.2)⟩) | with_reducible assumption | omega)
theorem ye_X7_mayClassStand_L_0 {v7_2 : Int32} {g7_0 : Nat → Int32} {g7_1 : Nat → Int32} {l2 : Int32} {g9_4 : Nat → Int32} {l3 : Int32} {l4 : Int32} (hU : y_Up g9_4) (hab : y_Ab g7_0 g9_4) (k2 : 0 ≤ l2.toInt) (k3 : 0 ≤ l3.toInt) (k4 : l3.toInt < 200) (k5 : 0 ≤ l4.toInt) (k6 : l3.toInt + l4.toInt ≤ 200) : y_Ok (f_X7_mayClassStand_L v7_2 g7_0 g7_1 l2 (0, l3, l4)) (fun r => ((r.toInt = 0 ∧ ¬ (y_B g9_4 l2.toInt l3.toInt)) ∨ (r.toInt = 1 ∧ (y_B g9_4 l2.toInt l3.toInt)))) := ye_X7_mayClassStand_L_0_i (g9_4 := g9_4) hU hab k2 (200 - l4.toInt + 1).toNat k3 k4 k5 k6 (by omega)
set_option maxHeartbeats 4000000 in
theorem ye_X7_mayClassStand {v7_2 : Int32} {g7_0 : Nat → Int32} {g7_1 : Nat → Int32} {p1 : Int32} {p2 : Int32} {g9_4 : Nat → Int32} (k0 : 4 ≤ v7_2.toInt) (k1 : v7_2.toInt ≤ 200) (hU : y_Up g9_4) (hab : y_Ab g7_0 g9_4) (k4 : 0 ≤ p1.toInt) (k5 : 0 ≤ p2.toInt) : y_Ok (f_X7_mayClassStand v7_2 g7_0 g7_1 p1 p2) (fun r => ((r.toInt = 0 ∧ ¬ (y_Ms v7_2.toInt g9_4 g7_1 p1.toInt p2.toInt (Int32.toNatClampNeg p2))) ∨ (r.toInt = 1 ∧ (y_Ms v7_2.toInt g9_4 g7_1 p1.toInt p2.toInt (Int32.toNatClampNeg p2))))) := by
  unfold f_X7_mayClassStand
  refine y_if (fun c1 => ?_) (fun c1 => ?_)
  · skip
    have c1' := c1
    rw [Int32.le_iff_toInt_le] at c1'
    have e2 : (0 : Int32).toInt = 0 := rfl
    refine y_some ?_
    try dsimp only
    (first | (exact Or.inl ⟨by omega, y_Ms_n (by omega)⟩) | (exact Or.inr ⟨by omega, ⟨by omega, by omega, Or.inl (by omega)⟩⟩) | (exact Or.inr ⟨by omega, ⟨by omega, by omega, Or.inr (Or.inl (by omega))⟩⟩) | (rcases ‹(_ ∧ ¬ y_B _ _ _) ∨ (_ ∧ y_B _ _ _)› with hz | hz; exact Or.inl ⟨hz.1, y_Ms_b (by omega) (by omega) hz.2⟩; exact Or.inr ⟨hz.1, ⟨by omega, by omega, Or.inr (Or.inr hz.2)⟩⟩) | with_reducible assumption | omega)
  · skip
    have c1' := c1
    rw [Int32.le_iff_toInt_le] at c1'
    refine y_if (fun c3 => ?_) (fun c3 => ?_)
    · skip
      have c3' := c3
      rw [Int32.lt_iff_toInt_lt] at c3'
      refine y_if (fun c4 => ?_) (fun c4 => ?_)
      · skip
        have e5 : (0 : Int32).toInt = 0 := rfl
        have c4' := c4
        rw [← Int32.toInt_inj] at c4'
        have e6 : (1 : Int32).toInt = 1 := rfl
        refine y_some ?_
        try dsimp only
        (first | (exact Or.inl ⟨by omega, y_Ms_n (by omega)⟩) | (exact Or.inr ⟨by omega, ⟨by omega, by omega, Or.inl (by omega)⟩⟩) | (exact Or.inr ⟨by omega, ⟨by omega, by omega, Or.inr (Or.inl (by omega))⟩⟩) | (rcases ‹(_ ∧ ¬ y_B _ _ _) ∨ (_ ∧ y_B _ _ _)› with hz | hz; exact Or.inl ⟨hz.1, y_Ms_b (by omega) (by omega) hz.2⟩; exact Or.inr ⟨hz.1, ⟨by omega, by omega, Or.inr (Or.inr hz.2)⟩⟩) | with_reducible assumption | omega)
      · skip
        have e7 : (0 : Int32).toInt = 0 := rfl
        have c4' := c4
        rw [← Int32.toInt_inj] at c4'
        refine y_gd (y_gdI (by omega) (by omega)) ?_
        refine y_if (fun c8 => ?_) (fun c8 => ?_)
        · skip
          try have e9 := @y_cl p2 (by omega)
          have c8' := c8
          rw [← Int32.toInt_inj] at c8'
          refine y_Ok.mono (ye_X7_mayClassStand_L_0 (g9_4 := g9_4) (l3 := p1) (l4 := 0) (by first | (exact Or.inl ⟨by omega, y_Ms_n (by omega)⟩) | (exact Or.inr ⟨by omega, ⟨by omega, by omega, Or.inl (by omega)⟩⟩) | (exact Or.inr ⟨by omega, ⟨by omega, by omega, Or.inr (Or.inl (by omega))⟩⟩) | (rcases ‹(_ ∧ ¬ y_B _ _ _) ∨ (_ ∧ y_B _ _ _)› with hz | hz; exact Or.inl ⟨hz.1, y_Ms_b (by omega) (by omega) hz.2⟩; exact Or.inr ⟨hz.1, ⟨by omega, by omega, Or.inr (Or.inr hz.2)⟩⟩) | with_reducible assumption | omega) (by first | (exact Or.inl ⟨by omega, y_Ms_n (by omega)⟩) | (exact Or.inr ⟨by omega, ⟨by omega, by omega, Or.inl (by omega)⟩⟩) | (exact Or.inr ⟨by omega, ⟨by omega, by omega, Or.inr (Or.inl (by omega))⟩⟩) | (rcases ‹(_ ∧ ¬ y_B _ _ _) ∨ (_ ∧ y_B _ _ _)› with hz | hz; exact Or.inl ⟨hz.1, y_Ms_b (by omega) (by omega) hz.2⟩; exact Or.inr ⟨hz.1, ⟨by omega, by omega, Or.inr (Or.inr hz.2)⟩⟩) | with_reducible assumption | omega) (by omega) (by omega) (by omega) (by omega) (by omega)) (fun r_t9 h_r_t9 => ?_)
          (first | (exact Or.inl ⟨by omega, y_Ms_n (by omega)⟩) | (exact Or.inr ⟨by omega, ⟨by omega, by omega, Or.inl (by omega)⟩⟩) | (exact Or.inr ⟨by omega, ⟨by omega, by omega, Or.inr (Or.inl (by omega))⟩⟩) | (rcases ‹(_ ∧ ¬ y_B _ _ _) ∨ (_ ∧ y_B _ _ _)› with hz | hz; exact Or.inl ⟨hz.1, y_Ms_b (by omega) (by omega) hz.2⟩; exact Or.inr ⟨hz.1, ⟨by omega, by omega, Or.inr (Or.inr hz.2)⟩⟩) | with_reducible assumption | omega)
        · skip
          try have e11 := @y_cl p2 (by omega)
          have c8' := c8
          rw [← Int32.toInt_inj] at c8'
          have e12 : (1 : Int32).toInt = 1 := rfl
          refine y_some ?_
          try dsimp only
          (first | (exact Or.inl ⟨by omega, y_Ms_n (by omega)⟩) | (exact Or.inr ⟨by omega, ⟨by omega, by omega, Or.inl (by omega)⟩⟩) | (exact Or.inr ⟨by omega, ⟨by omega, by omega, Or.inr (Or.inl (by omega))⟩⟩) | (rcases ‹(_ ∧ ¬ y_B _ _ _) ∨ (_ ∧ y_B _ _ _)› with hz | hz; exact Or.inl ⟨hz.1, y_Ms_b (by omega) (by omega) hz.2⟩; exact Or.inr ⟨hz.1, ⟨by omega, by omega, Or.inr (Or.inr hz.2)⟩⟩) | with_reducible assumption | omega)
    · skip
      have c3' := c3
      rw [Int32.lt_iff_toInt_lt] at c3'
      have e13 : (0 : Int32).toInt = 0 := rfl
      refine y_some ?_
      try dsimp only
      (first | (exact Or.inl ⟨by omega, y_Ms_n (by omega)⟩) | (exact Or.inr ⟨by omega, ⟨by omega, by omega, Or.inl (by omega)⟩⟩) | (exact Or.inr ⟨by omega, ⟨by omega, by omega, Or.inr (Or.inl (by omega))⟩⟩) | (rcases ‹(_ ∧ ¬ y_B _ _ _) ∨ (_ ∧ y_B _ _ _)› with hz | hz; exact Or.inl ⟨hz.1, y_Ms_b (by omega) (by omega) hz.2⟩; exact Or.inr ⟨hz.1, ⟨by omega, by omega, Or.inr (Or.inr hz.2)⟩⟩) | with_reducible assumption | omega)
set_option maxHeartbeats 4000000 in
theorem ye_X7_mayStand {v7_2 : Int32} {g7_0 : Nat → Int32} {g7_1 : Nat → Int32} {p1 : Int32} {p2 : Int32} {g9_4 : Nat → Int32} (k0 : 4 ≤ v7_2.toInt) (k1 : v7_2.toInt ≤ 200) (hU : y_Up g9_4) (hab : y_Ab g7_0 g9_4) (k4 : 0 ≤ p1.toInt) (k5 : p1.toInt < 16777216) (k6 : 0 ≤ p2.toInt) (k7 : p2.toInt < 16777216) : y_Ok (f_X7_mayStand v7_2 g7_0 g7_1 p1 p2) (fun r => ((r.toInt = 0 ∧ ¬ (y_Mt v7_2.toInt g9_4 g7_1 p1.toInt p2.toInt (p1 &&& 65535).toInt (p2 &&& 65535).toInt (Int32.toNatClampNeg (p2 &&& 65535)))) ∨ (r.toInt = 1 ∧ (y_Mt v7_2.toInt g9_4 g7_1 p1.toInt p2.toInt (p1 &&& 65535).toInt (p2 &&& 65535).toInt (Int32.toNatClampNeg (p2 &&& 65535)))))) := by
  have hax := y_and16 p1
  have hay := y_and16 p2
  unfold f_X7_mayStand
  refine y_if (fun c1 => ?_) (fun c1 => ?_)
  · skip
    have c1' := c1
    rw [← Int32.toInt_inj] at c1'
    have e2 : (1 : Int32).toInt = 1 := rfl
    refine y_some ?_
    try dsimp only
    (first | (exact Or.inr ⟨by omega, Or.inl (by omega)⟩) | (exact Or.inl ⟨by omega, y_Mt_n (by omega) (Or.inl (by omega))⟩) | (exact Or.inl ⟨by omega, y_Mt_n (by omega) (Or.inr (Or.inl (by omega)))⟩) | (exact Or.inl ⟨by omega, y_Mt_n (by omega) (Or.inr (Or.inr ⟨by omega, Or.inl (by omega)⟩))⟩) | (exact Or.inl ⟨by omega, y_Mt_n (by omega) (Or.inr (Or.inr ⟨by omega, Or.inr (by with_reducible assumption)⟩))⟩) | (exact Or.inr ⟨by omega, Or.inr ⟨by omega, by omega, Or.inl ⟨by omega, by omega⟩⟩⟩) | (exact Or.inr ⟨by omega, Or.inr ⟨by omega, by omega, Or.inr ⟨by omega, by with_reducible assumption⟩⟩⟩) | with_reducible assumption | omega)
  · skip
    have c1' := c1
    rw [← Int32.toInt_inj] at c1'
    refine y_bi (y_X7_isPrimitive) (fun r_2 h_r_2 => ?_)
    have h0_r_2 : (r_2.toInt = 0 ∧ ¬ (65528 ≤ p1.toInt ∧ p1.toInt < 65536)) ∨ (r_2.toInt = 1 ∧ (65528 ≤ p1.toInt ∧ p1.toInt < 65536)) := h_r_2
    refine y_if (fun c3 => ?_) (fun c3 => ?_)
    · skip
      have e4 : (0 : Int32).toInt = 0 := rfl
      have c3' := c3
      rw [← Int32.toInt_inj] at c3'
      have e5 := y_or0 h0_r_2 c3'
      clear h0_r_2
      refine y_bi (y_X7_isPrimitive) (fun r_4 h_r_4 => ?_)
      have h0_r_4 : (r_4.toInt = 0 ∧ ¬ (65528 ≤ p2.toInt ∧ p2.toInt < 65536)) ∨ (r_4.toInt = 1 ∧ (65528 ≤ p2.toInt ∧ p2.toInt < 65536)) := h_r_4
      refine y_if (fun c6 => ?_) (fun c6 => ?_)
      · skip
        have c6' := c6
        rw [← Int32.toInt_inj] at c6'
        have e7 := y_or0 h0_r_4 c6'
        clear h0_r_4
        refine y_bi (y_X7_dimensionsOf (by omega)) (fun r_6 h_r_6 => ?_)
        have h0_r_6 : r_6.toInt = p1.toInt / 65536 := h_r_6
        refine y_bi (y_X7_dimensionsOf (by omega)) (fun r_7 h_r_7 => ?_)
        have h0_r_7 : r_7.toInt = p2.toInt / 65536 := h_r_7
        refine y_if (fun c8 => ?_) (fun c8 => ?_)
        · skip
          try have e9 := @y_sub r_6 r_7 (by omega) (by omega)
          have c8' := c8
          rw [Int32.le_iff_toInt_le] at c8'
          refine y_if (fun c10 => ?_) (fun c10 => ?_)
          · skip
            have c10' := c10
            rw [← Int32.toInt_inj] at c10'
            have e11 := y_and16 p1
            have e12 := y_and16 p2
            refine y_bi (ye_X7_mayClassStand (g9_4 := g9_4) (by omega) (by omega) (by first | (exact Or.inr ⟨by omega, Or.inl (by omega)⟩) | (exact Or.inl ⟨by omega, y_Mt_n (by omega) (Or.inl (by omega))⟩) | (exact Or.inl ⟨by omega, y_Mt_n (by omega) (Or.inr (Or.inl (by omega)))⟩) | (exact Or.inl ⟨by omega, y_Mt_n (by omega) (Or.inr (Or.inr ⟨by omega, Or.inl (by omega)⟩))⟩) | (exact Or.inl ⟨by omega, y_Mt_n (by omega) (Or.inr (Or.inr ⟨by omega, Or.inr (by with_reducible assumption)⟩))⟩) | (exact Or.inr ⟨by omega, Or.inr ⟨by omega, by omega, Or.inl ⟨by omega, by omega⟩⟩⟩) | (exact Or.inr ⟨by omega, Or.inr ⟨by omega, by omega, Or.inr ⟨by omega, by with_reducible assumption⟩⟩⟩) | with_reducible assumption | omega) (by first | (exact Or.inr ⟨by omega, Or.inl (by omega)⟩) | (exact Or.inl ⟨by omega, y_Mt_n (by omega) (Or.inl (by omega))⟩) | (exact Or.inl ⟨by omega, y_Mt_n (by omega) (Or.inr (Or.inl (by omega)))⟩) | (exact Or.inl ⟨by omega, y_Mt_n (by omega) (Or.inr (Or.inr ⟨by omega, Or.inl (by omega)⟩))⟩) | (exact Or.inl ⟨by omega, y_Mt_n (by omega) (Or.inr (Or.inr ⟨by omega, Or.inr (by with_reducible assumption)⟩))⟩) | (exact Or.inr ⟨by omega, Or.inr ⟨by omega, by omega, Or.inl ⟨by omega, by omega⟩⟩⟩) | (exact Or.inr ⟨by omega, Or.inr ⟨by omega, by omega, Or.inr ⟨by omega, by with_reducible assumption⟩⟩⟩) | with_reducible assumption | omega) (by omega) (by omega)) (fun r_10 h_r_10 => ?_)
            have h0_r_10 : (r_10.toInt = 0 ∧ ¬ (y_Ms v7_2.toInt g9_4 g7_1 (p1 &&& (65535 : Int32)).toInt (p2 &&& (65535 : Int32)).toInt (Int32.toNatClampNeg (p2 &&& (65535 : Int32))))) ∨ (r_10.toInt = 1 ∧ (y_Ms v7_2.toInt g9_4 g7_1 (p1 &&& (65535 : Int32)).toInt (p2 &&& (65535 : Int32)).toInt (Int32.toNatClampNeg (p2 &&& (65535 : Int32))))) := h_r_10
            refine y_if (fun c13 => ?_) (fun c13 => ?_)
            · skip
              have c13' := c13
              rw [← Int32.toInt_inj] at c13'
              have e14 := y_or0 h0_r_10 c13'
              clear h0_r_10
              refine y_some ?_
              try dsimp only
              (first | (exact Or.inr ⟨by omega, Or.inl (by omega)⟩) | (exact Or.inl ⟨by omega, y_Mt_n (by omega) (Or.inl (by omega))⟩) | (exact Or.inl ⟨by omega, y_Mt_n (by omega) (Or.inr (Or.inl (by omega)))⟩) | (exact Or.inl ⟨by omega, y_Mt_n (by omega) (Or.inr (Or.inr ⟨by omega, Or.inl (by omega)⟩))⟩) | (exact Or.inl ⟨by omega, y_Mt_n (by omega) (Or.inr (Or.inr ⟨by omega, Or.inr (by with_reducible assumption)⟩))⟩) | (exact Or.inr ⟨by omega, Or.inr ⟨by omega, by omega, Or.inl ⟨by omega, by omega⟩⟩⟩) | (exact Or.inr ⟨by omega, Or.inr ⟨by omega, by omega, Or.inr ⟨by omega, by with_reducible assumption⟩⟩⟩) | with_reducible assumption | omega)
            · skip
              have c13' := c13
              rw [← Int32.toInt_inj] at c13'
              have e15 := y_or1 h0_r_10 c13'
              clear h0_r_10
              have e16 : (1 : Int32).toInt = 1 := rfl
              refine y_some ?_
              try dsimp only
              (first | (exact Or.inr ⟨by omega, Or.inl (by omega)⟩) | (exact Or.inl ⟨by omega, y_Mt_n (by omega) (Or.inl (by omega))⟩) | (exact Or.inl ⟨by omega, y_Mt_n (by omega) (Or.inr (Or.inl (by omega)))⟩) | (exact Or.inl ⟨by omega, y_Mt_n (by omega) (Or.inr (Or.inr ⟨by omega, Or.inl (by omega)⟩))⟩) | (exact Or.inl ⟨by omega, y_Mt_n (by omega) (Or.inr (Or.inr ⟨by omega, Or.inr (by with_reducible assumption)⟩))⟩) | (exact Or.inr ⟨by omega, Or.inr ⟨by omega, by omega, Or.inl ⟨by omega, by omega⟩⟩⟩) | (exact Or.inr ⟨by omega, Or.inr ⟨by omega, by omega, Or.inr ⟨by omega, by with_reducible assumption⟩⟩⟩) | with_reducible assumption | omega)
          · skip
            have c10' := c10
            rw [← Int32.toInt_inj] at c10'
            refine y_some ?_
            try dsimp only
            (first | (exact Or.inr ⟨by omega, Or.inl (by omega)⟩) | (exact Or.inl ⟨by omega, y_Mt_n (by omega) (Or.inl (by omega))⟩) | (exact Or.inl ⟨by omega, y_Mt_n (by omega) (Or.inr (Or.inl (by omega)))⟩) | (exact Or.inl ⟨by omega, y_Mt_n (by omega) (Or.inr (Or.inr ⟨by omega, Or.inl (by omega)⟩))⟩) | (exact Or.inl ⟨by omega, y_Mt_n (by omega) (Or.inr (Or.inr ⟨by omega, Or.inr (by with_reducible assumption)⟩))⟩) | (exact Or.inr ⟨by omega, Or.inr ⟨by omega, by omega, Or.inl ⟨by omega, by omega⟩⟩⟩) | (exact Or.inr ⟨by omega, Or.inr ⟨by omega, by omega, Or.inr ⟨by omega, by with_reducible assumption⟩⟩⟩) | with_reducible assumption | omega)
        · skip
          try have e17 := @y_sub r_6 r_7 (by omega) (by omega)
          have c8' := c8
          rw [Int32.le_iff_toInt_le] at c8'
          refine y_if (fun c18 => ?_) (fun c18 => ?_)
          · skip
            have e19 := y_and16 p2
            have c18' := c18
            rw [← Int32.toInt_inj] at c18'
            have e20 : (1 : Int32).toInt = 1 := rfl
            refine y_some ?_
            try dsimp only
            (first | (exact Or.inr ⟨by omega, Or.inl (by omega)⟩) | (exact Or.inl ⟨by omega, y_Mt_n (by omega) (Or.inl (by omega))⟩) | (exact Or.inl ⟨by omega, y_Mt_n (by omega) (Or.inr (Or.inl (by omega)))⟩) | (exact Or.inl ⟨by omega, y_Mt_n (by omega) (Or.inr (Or.inr ⟨by omega, Or.inl (by omega)⟩))⟩) | (exact Or.inl ⟨by omega, y_Mt_n (by omega) (Or.inr (Or.inr ⟨by omega, Or.inr (by with_reducible assumption)⟩))⟩) | (exact Or.inr ⟨by omega, Or.inr ⟨by omega, by omega, Or.inl ⟨by omega, by omega⟩⟩⟩) | (exact Or.inr ⟨by omega, Or.inr ⟨by omega, by omega, Or.inr ⟨by omega, by with_reducible assumption⟩⟩⟩) | with_reducible assumption | omega)
          · skip
            have e21 := y_and16 p2
            have c18' := c18
            rw [← Int32.toInt_inj] at c18'
            refine y_if (fun c22 => ?_) (fun c22 => ?_)
            · skip
              have e23 : (2 : Int32).toInt = 2 := rfl
              have c22' := c22
              rw [← Int32.toInt_inj] at c22'
              have e24 : (1 : Int32).toInt = 1 := rfl
              refine y_some ?_
              try dsimp only
              (first | (exact Or.inr ⟨by omega, Or.inl (by omega)⟩) | (exact Or.inl ⟨by omega, y_Mt_n (by omega) (Or.inl (by omega))⟩) | (exact Or.inl ⟨by omega, y_Mt_n (by omega) (Or.inr (Or.inl (by omega)))⟩) | (exact Or.inl ⟨by omega, y_Mt_n (by omega) (Or.inr (Or.inr ⟨by omega, Or.inl (by omega)⟩))⟩) | (exact Or.inl ⟨by omega, y_Mt_n (by omega) (Or.inr (Or.inr ⟨by omega, Or.inr (by with_reducible assumption)⟩))⟩) | (exact Or.inr ⟨by omega, Or.inr ⟨by omega, by omega, Or.inl ⟨by omega, by omega⟩⟩⟩) | (exact Or.inr ⟨by omega, Or.inr ⟨by omega, by omega, Or.inr ⟨by omega, by with_reducible assumption⟩⟩⟩) | with_reducible assumption | omega)
            · skip
              have e25 : (2 : Int32).toInt = 2 := rfl
              have c22' := c22
              rw [← Int32.toInt_inj] at c22'
              refine y_if (fun c26 => ?_) (fun c26 => ?_)
              · skip
                have e27 : (3 : Int32).toInt = 3 := rfl
                have c26' := c26
                rw [← Int32.toInt_inj] at c26'
                have e28 : (1 : Int32).toInt = 1 := rfl
                refine y_some ?_
                try dsimp only
                (first | (exact Or.inr ⟨by omega, Or.inl (by omega)⟩) | (exact Or.inl ⟨by omega, y_Mt_n (by omega) (Or.inl (by omega))⟩) | (exact Or.inl ⟨by omega, y_Mt_n (by omega) (Or.inr (Or.inl (by omega)))⟩) | (exact Or.inl ⟨by omega, y_Mt_n (by omega) (Or.inr (Or.inr ⟨by omega, Or.inl (by omega)⟩))⟩) | (exact Or.inl ⟨by omega, y_Mt_n (by omega) (Or.inr (Or.inr ⟨by omega, Or.inr (by with_reducible assumption)⟩))⟩) | (exact Or.inr ⟨by omega, Or.inr ⟨by omega, by omega, Or.inl ⟨by omega, by omega⟩⟩⟩) | (exact Or.inr ⟨by omega, Or.inr ⟨by omega, by omega, Or.inr ⟨by omega, by with_reducible assumption⟩⟩⟩) | with_reducible assumption | omega)
              · skip
                have e29 : (3 : Int32).toInt = 3 := rfl
                have c26' := c26
                rw [← Int32.toInt_inj] at c26'
                refine y_some ?_
                try dsimp only
                (first | (exact Or.inr ⟨by omega, Or.inl (by omega)⟩) | (exact Or.inl ⟨by omega, y_Mt_n (by omega) (Or.inl (by omega))⟩) | (exact Or.inl ⟨by omega, y_Mt_n (by omega) (Or.inr (Or.inl (by omega)))⟩) | (exact Or.inl ⟨by omega, y_Mt_n (by omega) (Or.inr (Or.inr ⟨by omega, Or.inl (by omega)⟩))⟩) | (exact Or.inl ⟨by omega, y_Mt_n (by omega) (Or.inr (Or.inr ⟨by omega, Or.inr (by with_reducible assumption)⟩))⟩) | (exact Or.inr ⟨by omega, Or.inr ⟨by omega, by omega, Or.inl ⟨by omega, by omega⟩⟩⟩) | (exact Or.inr ⟨by omega, Or.inr ⟨by omega, by omega, Or.inr ⟨by omega, by with_reducible assumption⟩⟩⟩) | with_reducible assumption | omega)
      · skip
        have c6' := c6
        rw [← Int32.toInt_inj] at c6'
        have e30 := y_or1 h0_r_4 c6'
        clear h0_r_4
        refine y_some ?_
        try dsimp only
        (first | (exact Or.inr ⟨by omega, Or.inl (by omega)⟩) | (exact Or.inl ⟨by omega, y_Mt_n (by omega) (Or.inl (by omega))⟩) | (exact Or.inl ⟨by omega, y_Mt_n (by omega) (Or.inr (Or.inl (by omega)))⟩) | (exact Or.inl ⟨by omega, y_Mt_n (by omega) (Or.inr (Or.inr ⟨by omega, Or.inl (by omega)⟩))⟩) | (exact Or.inl ⟨by omega, y_Mt_n (by omega) (Or.inr (Or.inr ⟨by omega, Or.inr (by with_reducible assumption)⟩))⟩) | (exact Or.inr ⟨by omega, Or.inr ⟨by omega, by omega, Or.inl ⟨by omega, by omega⟩⟩⟩) | (exact Or.inr ⟨by omega, Or.inr ⟨by omega, by omega, Or.inr ⟨by omega, by with_reducible assumption⟩⟩⟩) | with_reducible assumption | omega)
    · skip
      have e31 : (0 : Int32).toInt = 0 := rfl
      have c3' := c3
      rw [← Int32.toInt_inj] at c3'
      have e32 := y_or1 h0_r_2 c3'
      clear h0_r_2
      refine y_some ?_
      try dsimp only
      (first | (exact Or.inr ⟨by omega, Or.inl (by omega)⟩) | (exact Or.inl ⟨by omega, y_Mt_n (by omega) (Or.inl (by omega))⟩) | (exact Or.inl ⟨by omega, y_Mt_n (by omega) (Or.inr (Or.inl (by omega)))⟩) | (exact Or.inl ⟨by omega, y_Mt_n (by omega) (Or.inr (Or.inr ⟨by omega, Or.inl (by omega)⟩))⟩) | (exact Or.inl ⟨by omega, y_Mt_n (by omega) (Or.inr (Or.inr ⟨by omega, Or.inr (by with_reducible assumption)⟩))⟩) | (exact Or.inr ⟨by omega, Or.inr ⟨by omega, by omega, Or.inl ⟨by omega, by omega⟩⟩⟩) | (exact Or.inr ⟨by omega, Or.inr ⟨by omega, by omega, Or.inr ⟨by omega, by with_reducible assumption⟩⟩⟩) | with_reducible assumption | omega)
set_option maxHeartbeats 4000000 in
theorem ye_X9_may_0 {g9_4 : Nat → Int32} {g9_5 : Nat → Int32} {p1 : Int32} {p2 : Int32} {v : Int} (k0 : 4 ≤ v) (k1 : v ≤ 200) (hU : y_Up g9_4) (k3 : 0 ≤ p1.toInt) (k4 : p1.toInt < v) (k5 : 0 ≤ p2.toInt) (k6 : p2.toInt < v) : y_Ok (f_X9_may_0 g9_4 g9_5 p1 p2) (fun r => ((r.toInt = 0 ∧ ¬ (y_Ms v g9_4 g9_5 p1.toInt p2.toInt (Int32.toNatClampNeg p2))) ∨ (r.toInt = 1 ∧ (y_Ms v g9_4 g9_5 p1.toInt p2.toInt (Int32.toNatClampNeg p2))))) := by
  unfold f_X9_may_0
  refine y_if (fun c1 => ?_) (fun c1 => ?_)
  · skip
    have c1' := c1
    rw [← Int32.toInt_inj] at c1'
    have e2 : (1 : Int32).toInt = 1 := rfl
    refine y_some ?_
    try dsimp only
    (first | (exact Or.inr ⟨by omega, ⟨by omega, by omega, Or.inr (Or.inr (y_B_eq (by omega)))⟩⟩) | (exact Or.inr ⟨by omega, ⟨by omega, by omega, Or.inl (by omega)⟩⟩) | (exact Or.inr ⟨by omega, ⟨by omega, by omega, Or.inr (Or.inl (by omega))⟩⟩) | (exact Or.inr ⟨by omega, ⟨by omega, by omega, Or.inr (Or.inr (by with_reducible assumption))⟩⟩) | (exact Or.inl ⟨by omega, y_Ms_b (by omega) (by omega) (by with_reducible assumption)⟩) | with_reducible assumption | omega | (exfalso; omega))
  · skip
    have c1' := c1
    rw [← Int32.toInt_inj] at c1'
    refine y_bi (y_X9_isPrimitive) (fun r_2 h_r_2 => ?_)
    have h0_r_2 : (r_2.toInt = 0 ∧ ¬ (65528 ≤ p1.toInt ∧ p1.toInt < 65536)) ∨ (r_2.toInt = 1 ∧ (65528 ≤ p1.toInt ∧ p1.toInt < 65536)) := h_r_2
    refine y_if (fun c3 => ?_) (fun c3 => ?_)
    · skip
      have e4 : (0 : Int32).toInt = 0 := rfl
      have c3' := c3
      rw [← Int32.toInt_inj] at c3'
      have e5 := y_or0 h0_r_2 c3'
      clear h0_r_2
      refine y_bi (y_X9_isPrimitive) (fun r_4 h_r_4 => ?_)
      have h0_r_4 : (r_4.toInt = 0 ∧ ¬ (65528 ≤ p2.toInt ∧ p2.toInt < 65536)) ∨ (r_4.toInt = 1 ∧ (65528 ≤ p2.toInt ∧ p2.toInt < 65536)) := h_r_4
      refine y_if (fun c6 => ?_) (fun c6 => ?_)
      · skip
        have c6' := c6
        rw [← Int32.toInt_inj] at c6'
        have e7 := y_or0 h0_r_4 c6'
        clear h0_r_4
        refine y_if (fun c8 => ?_) (fun c8 => ?_)
        · skip
          have e9 := y_sar16 p2
          have c8' := c8
          rw [← Int32.toInt_inj] at c8'
          refine y_if (fun c10 => ?_) (fun c10 => ?_)
          · skip
            have e11 := y_sar16 p1
            have c10' := c10
            rw [Int32.le_iff_toInt_le] at c10'
            refine y_if (fun c12 => ?_) (fun c12 => ?_)
            · skip
              have c12' := c12
              rw [← Int32.toInt_inj] at c12'
              have e13 : (1 : Int32).toInt = 1 := rfl
              refine y_some ?_
              try dsimp only
              (first | (exact Or.inr ⟨by omega, ⟨by omega, by omega, Or.inr (Or.inr (y_B_eq (by omega)))⟩⟩) | (exact Or.inr ⟨by omega, ⟨by omega, by omega, Or.inl (by omega)⟩⟩) | (exact Or.inr ⟨by omega, ⟨by omega, by omega, Or.inr (Or.inl (by omega))⟩⟩) | (exact Or.inr ⟨by omega, ⟨by omega, by omega, Or.inr (Or.inr (by with_reducible assumption))⟩⟩) | (exact Or.inl ⟨by omega, y_Ms_b (by omega) (by omega) (by with_reducible assumption)⟩) | with_reducible assumption | omega | (exfalso; omega))
            · skip
              have c12' := c12
              rw [← Int32.toInt_inj] at c12'
              refine y_gd (y_gdI (by omega) (by omega)) ?_
              refine y_if (fun c14 => ?_) (fun c14 => ?_)
              · skip
                try have e15 := @y_cl p2 (by omega)
                have c14' := c14
                rw [← Int32.toInt_inj] at c14'
                refine y_bi (ye_X9_below (by first | (exact Or.inr ⟨by omega, ⟨by omega, by omega, Or.inr (Or.inr (y_B_eq (by omega)))⟩⟩) | (exact Or.inr ⟨by omega, ⟨by omega, by omega, Or.inl (by omega)⟩⟩) | (exact Or.inr ⟨by omega, ⟨by omega, by omega, Or.inr (Or.inl (by omega))⟩⟩) | (exact Or.inr ⟨by omega, ⟨by omega, by omega, Or.inr (Or.inr (by with_reducible assumption))⟩⟩) | (exact Or.inl ⟨by omega, y_Ms_b (by omega) (by omega) (by with_reducible assumption)⟩) | with_reducible assumption | omega | (exfalso; omega)) (by omega) (by omega) (by omega)) (fun r_18 h_r_18 => ?_)
                have h0_r_18 : (r_18.toInt = 0 ∧ ¬ (y_B g9_4 p2.toInt p1.toInt)) ∨ (r_18.toInt = 1 ∧ (y_B g9_4 p2.toInt p1.toInt)) := h_r_18
                refine y_if (fun c16 => ?_) (fun c16 => ?_)
                · skip
                  have c16' := c16
                  rw [← Int32.toInt_inj] at c16'
                  have e17 := y_or0 h0_r_18 c16'
                  clear h0_r_18
                  refine y_some ?_
                  try dsimp only
                  (first | (exact Or.inr ⟨by omega, ⟨by omega, by omega, Or.inr (Or.inr (y_B_eq (by omega)))⟩⟩) | (exact Or.inr ⟨by omega, ⟨by omega, by omega, Or.inl (by omega)⟩⟩) | (exact Or.inr ⟨by omega, ⟨by omega, by omega, Or.inr (Or.inl (by omega))⟩⟩) | (exact Or.inr ⟨by omega, ⟨by omega, by omega, Or.inr (Or.inr (by with_reducible assumption))⟩⟩) | (exact Or.inl ⟨by omega, y_Ms_b (by omega) (by omega) (by with_reducible assumption)⟩) | with_reducible assumption | omega | (exfalso; omega))
                · skip
                  have c16' := c16
                  rw [← Int32.toInt_inj] at c16'
                  have e18 := y_or1 h0_r_18 c16'
                  clear h0_r_18
                  have e19 : (1 : Int32).toInt = 1 := rfl
                  refine y_some ?_
                  try dsimp only
                  (first | (exact Or.inr ⟨by omega, ⟨by omega, by omega, Or.inr (Or.inr (y_B_eq (by omega)))⟩⟩) | (exact Or.inr ⟨by omega, ⟨by omega, by omega, Or.inl (by omega)⟩⟩) | (exact Or.inr ⟨by omega, ⟨by omega, by omega, Or.inr (Or.inl (by omega))⟩⟩) | (exact Or.inr ⟨by omega, ⟨by omega, by omega, Or.inr (Or.inr (by with_reducible assumption))⟩⟩) | (exact Or.inl ⟨by omega, y_Ms_b (by omega) (by omega) (by with_reducible assumption)⟩) | with_reducible assumption | omega | (exfalso; omega))
              · skip
                try have e20 := @y_cl p2 (by omega)
                have c14' := c14
                rw [← Int32.toInt_inj] at c14'
                have e21 : (1 : Int32).toInt = 1 := rfl
                refine y_some ?_
                try dsimp only
                (first | (exact Or.inr ⟨by omega, ⟨by omega, by omega, Or.inr (Or.inr (y_B_eq (by omega)))⟩⟩) | (exact Or.inr ⟨by omega, ⟨by omega, by omega, Or.inl (by omega)⟩⟩) | (exact Or.inr ⟨by omega, ⟨by omega, by omega, Or.inr (Or.inl (by omega))⟩⟩) | (exact Or.inr ⟨by omega, ⟨by omega, by omega, Or.inr (Or.inr (by with_reducible assumption))⟩⟩) | (exact Or.inl ⟨by omega, y_Ms_b (by omega) (by omega) (by with_reducible assumption)⟩) | with_reducible assumption | omega | (exfalso; omega))
          · skip
            have e22 := y_sar16 p1
            have c10' := c10
            rw [Int32.le_iff_toInt_le] at c10'
            refine y_if (fun c23 => ?_) (fun c23 => ?_)
            · skip
              have c23' := c23
              rw [← Int32.toInt_inj] at c23'
              have e24 : (1 : Int32).toInt = 1 := rfl
              refine y_some ?_
              try dsimp only
              (first | (exact Or.inr ⟨by omega, ⟨by omega, by omega, Or.inr (Or.inr (y_B_eq (by omega)))⟩⟩) | (exact Or.inr ⟨by omega, ⟨by omega, by omega, Or.inl (by omega)⟩⟩) | (exact Or.inr ⟨by omega, ⟨by omega, by omega, Or.inr (Or.inl (by omega))⟩⟩) | (exact Or.inr ⟨by omega, ⟨by omega, by omega, Or.inr (Or.inr (by with_reducible assumption))⟩⟩) | (exact Or.inl ⟨by omega, y_Ms_b (by omega) (by omega) (by with_reducible assumption)⟩) | with_reducible assumption | omega | (exfalso; omega))
            · skip
              have c23' := c23
              rw [← Int32.toInt_inj] at c23'
              refine y_if (fun c25 => ?_) (fun c25 => ?_)
              · skip
                have e26 : (2 : Int32).toInt = 2 := rfl
                have c25' := c25
                rw [← Int32.toInt_inj] at c25'
                have e27 : (1 : Int32).toInt = 1 := rfl
                refine y_some ?_
                try dsimp only
                (first | (exact Or.inr ⟨by omega, ⟨by omega, by omega, Or.inr (Or.inr (y_B_eq (by omega)))⟩⟩) | (exact Or.inr ⟨by omega, ⟨by omega, by omega, Or.inl (by omega)⟩⟩) | (exact Or.inr ⟨by omega, ⟨by omega, by omega, Or.inr (Or.inl (by omega))⟩⟩) | (exact Or.inr ⟨by omega, ⟨by omega, by omega, Or.inr (Or.inr (by with_reducible assumption))⟩⟩) | (exact Or.inl ⟨by omega, y_Ms_b (by omega) (by omega) (by with_reducible assumption)⟩) | with_reducible assumption | omega | (exfalso; omega))
              · skip
                have e28 : (2 : Int32).toInt = 2 := rfl
                have c25' := c25
                rw [← Int32.toInt_inj] at c25'
                refine y_if (fun c29 => ?_) (fun c29 => ?_)
                · skip
                  have e30 : (3 : Int32).toInt = 3 := rfl
                  have c29' := c29
                  rw [← Int32.toInt_inj] at c29'
                  have e31 : (1 : Int32).toInt = 1 := rfl
                  refine y_some ?_
                  try dsimp only
                  (first | (exact Or.inr ⟨by omega, ⟨by omega, by omega, Or.inr (Or.inr (y_B_eq (by omega)))⟩⟩) | (exact Or.inr ⟨by omega, ⟨by omega, by omega, Or.inl (by omega)⟩⟩) | (exact Or.inr ⟨by omega, ⟨by omega, by omega, Or.inr (Or.inl (by omega))⟩⟩) | (exact Or.inr ⟨by omega, ⟨by omega, by omega, Or.inr (Or.inr (by with_reducible assumption))⟩⟩) | (exact Or.inl ⟨by omega, y_Ms_b (by omega) (by omega) (by with_reducible assumption)⟩) | with_reducible assumption | omega | (exfalso; omega))
                · skip
                  have e32 : (3 : Int32).toInt = 3 := rfl
                  have c29' := c29
                  rw [← Int32.toInt_inj] at c29'
                  refine y_some ?_
                  try dsimp only
                  (first | (exact Or.inr ⟨by omega, ⟨by omega, by omega, Or.inr (Or.inr (y_B_eq (by omega)))⟩⟩) | (exact Or.inr ⟨by omega, ⟨by omega, by omega, Or.inl (by omega)⟩⟩) | (exact Or.inr ⟨by omega, ⟨by omega, by omega, Or.inr (Or.inl (by omega))⟩⟩) | (exact Or.inr ⟨by omega, ⟨by omega, by omega, Or.inr (Or.inr (by with_reducible assumption))⟩⟩) | (exact Or.inl ⟨by omega, y_Ms_b (by omega) (by omega) (by with_reducible assumption)⟩) | with_reducible assumption | omega | (exfalso; omega))
        · skip
          have e33 := y_sar16 p2
          have c8' := c8
          rw [← Int32.toInt_inj] at c8'
          refine y_if (fun c34 => ?_) (fun c34 => ?_)
          · skip
            have e35 := y_sar16 p1
            have c34' := c34
            rw [← Int32.toInt_inj] at c34'
            refine y_if (fun c36 => ?_) (fun c36 => ?_)
            · skip
              have e37 : (65528 : Int32).toInt = 65528 := rfl
              have e38 := y_and16 p1
              have c36' := c36
              rw [Int32.le_iff_toInt_le] at c36'
              refine y_some ?_
              try dsimp only
              (first | (exact Or.inr ⟨by omega, ⟨by omega, by omega, Or.inr (Or.inr (y_B_eq (by omega)))⟩⟩) | (exact Or.inr ⟨by omega, ⟨by omega, by omega, Or.inl (by omega)⟩⟩) | (exact Or.inr ⟨by omega, ⟨by omega, by omega, Or.inr (Or.inl (by omega))⟩⟩) | (exact Or.inr ⟨by omega, ⟨by omega, by omega, Or.inr (Or.inr (by with_reducible assumption))⟩⟩) | (exact Or.inl ⟨by omega, y_Ms_b (by omega) (by omega) (by with_reducible assumption)⟩) | with_reducible assumption | omega | (exfalso; omega))
            · skip
              have e39 : (65528 : Int32).toInt = 65528 := rfl
              have e40 := y_and16 p1
              have c36' := c36
              rw [Int32.le_iff_toInt_le] at c36'
              refine y_if (fun c41 => ?_) (fun c41 => ?_)
              · skip
                have e42 := y_and16 p2
                have c41' := c41
                rw [Int32.le_iff_toInt_le] at c41'
                refine y_some ?_
                try dsimp only
                (first | (exact Or.inr ⟨by omega, ⟨by omega, by omega, Or.inr (Or.inr (y_B_eq (by omega)))⟩⟩) | (exact Or.inr ⟨by omega, ⟨by omega, by omega, Or.inl (by omega)⟩⟩) | (exact Or.inr ⟨by omega, ⟨by omega, by omega, Or.inr (Or.inl (by omega))⟩⟩) | (exact Or.inr ⟨by omega, ⟨by omega, by omega, Or.inr (Or.inr (by with_reducible assumption))⟩⟩) | (exact Or.inl ⟨by omega, y_Ms_b (by omega) (by omega) (by with_reducible assumption)⟩) | with_reducible assumption | omega | (exfalso; omega))
              · skip
                have e43 := y_and16 p2
                have c41' := c41
                rw [Int32.le_iff_toInt_le] at c41'
                exfalso; omega
          · skip
            have e44 := y_sar16 p1
            have c34' := c34
            rw [← Int32.toInt_inj] at c34'
            refine y_if (fun c45 => ?_) (fun c45 => ?_)
            · skip
              have c45' := c45
              rw [Int32.le_iff_toInt_le] at c45'
              refine y_some ?_
              try dsimp only
              (first | (exact Or.inr ⟨by omega, ⟨by omega, by omega, Or.inr (Or.inr (y_B_eq (by omega)))⟩⟩) | (exact Or.inr ⟨by omega, ⟨by omega, by omega, Or.inl (by omega)⟩⟩) | (exact Or.inr ⟨by omega, ⟨by omega, by omega, Or.inr (Or.inl (by omega))⟩⟩) | (exact Or.inr ⟨by omega, ⟨by omega, by omega, Or.inr (Or.inr (by with_reducible assumption))⟩⟩) | (exact Or.inl ⟨by omega, y_Ms_b (by omega) (by omega) (by with_reducible assumption)⟩) | with_reducible assumption | omega | (exfalso; omega))
            · skip
              have c45' := c45
              rw [Int32.le_iff_toInt_le] at c45'
              refine y_if (fun c46 => ?_) (fun c46 => ?_)
              · skip
                have e47 := y_and16 p2
                have c46' := c46
                rw [← Int32.toInt_inj] at c46'
                have e48 : (1 : Int32).toInt = 1 := rfl
                refine y_some ?_
                try dsimp only
                (first | (exact Or.inr ⟨by omega, ⟨by omega, by omega, Or.inr (Or.inr (y_B_eq (by omega)))⟩⟩) | (exact Or.inr ⟨by omega, ⟨by omega, by omega, Or.inl (by omega)⟩⟩) | (exact Or.inr ⟨by omega, ⟨by omega, by omega, Or.inr (Or.inl (by omega))⟩⟩) | (exact Or.inr ⟨by omega, ⟨by omega, by omega, Or.inr (Or.inr (by with_reducible assumption))⟩⟩) | (exact Or.inl ⟨by omega, y_Ms_b (by omega) (by omega) (by with_reducible assumption)⟩) | with_reducible assumption | omega | (exfalso; omega))
              · skip
                have e49 := y_and16 p2
                have c46' := c46
                rw [← Int32.toInt_inj] at c46'
                refine y_if (fun c50 => ?_) (fun c50 => ?_)
                · skip
                  have e51 : (2 : Int32).toInt = 2 := rfl
                  have c50' := c50
                  rw [← Int32.toInt_inj] at c50'
                  have e52 : (1 : Int32).toInt = 1 := rfl
                  refine y_some ?_
                  try dsimp only
                  (first | (exact Or.inr ⟨by omega, ⟨by omega, by omega, Or.inr (Or.inr (y_B_eq (by omega)))⟩⟩) | (exact Or.inr ⟨by omega, ⟨by omega, by omega, Or.inl (by omega)⟩⟩) | (exact Or.inr ⟨by omega, ⟨by omega, by omega, Or.inr (Or.inl (by omega))⟩⟩) | (exact Or.inr ⟨by omega, ⟨by omega, by omega, Or.inr (Or.inr (by with_reducible assumption))⟩⟩) | (exact Or.inl ⟨by omega, y_Ms_b (by omega) (by omega) (by with_reducible assumption)⟩) | with_reducible assumption | omega | (exfalso; omega))
                · skip
                  have e53 : (2 : Int32).toInt = 2 := rfl
                  have c50' := c50
                  rw [← Int32.toInt_inj] at c50'
                  refine y_if (fun c54 => ?_) (fun c54 => ?_)
                  · skip
                    have e55 : (3 : Int32).toInt = 3 := rfl
                    have c54' := c54
                    rw [← Int32.toInt_inj] at c54'
                    have e56 : (1 : Int32).toInt = 1 := rfl
                    refine y_some ?_
                    try dsimp only
                    (first | (exact Or.inr ⟨by omega, ⟨by omega, by omega, Or.inr (Or.inr (y_B_eq (by omega)))⟩⟩) | (exact Or.inr ⟨by omega, ⟨by omega, by omega, Or.inl (by omega)⟩⟩) | (exact Or.inr ⟨by omega, ⟨by omega, by omega, Or.inr (Or.inl (by omega))⟩⟩) | (exact Or.inr ⟨by omega, ⟨by omega, by omega, Or.inr (Or.inr (by with_reducible assumption))⟩⟩) | (exact Or.inl ⟨by omega, y_Ms_b (by omega) (by omega) (by with_reducible assumption)⟩) | with_reducible assumption | omega | (exfalso; omega))
                  · skip
                    have e57 : (3 : Int32).toInt = 3 := rfl
                    have c54' := c54
                    rw [← Int32.toInt_inj] at c54'
                    refine y_some ?_
                    try dsimp only
                    (first | (exact Or.inr ⟨by omega, ⟨by omega, by omega, Or.inr (Or.inr (y_B_eq (by omega)))⟩⟩) | (exact Or.inr ⟨by omega, ⟨by omega, by omega, Or.inl (by omega)⟩⟩) | (exact Or.inr ⟨by omega, ⟨by omega, by omega, Or.inr (Or.inl (by omega))⟩⟩) | (exact Or.inr ⟨by omega, ⟨by omega, by omega, Or.inr (Or.inr (by with_reducible assumption))⟩⟩) | (exact Or.inl ⟨by omega, y_Ms_b (by omega) (by omega) (by with_reducible assumption)⟩) | with_reducible assumption | omega | (exfalso; omega))
      · skip
        have c6' := c6
        rw [← Int32.toInt_inj] at c6'
        have e58 := y_or1 h0_r_4 c6'
        clear h0_r_4
        refine y_some ?_
        try dsimp only
        (first | (exact Or.inr ⟨by omega, ⟨by omega, by omega, Or.inr (Or.inr (y_B_eq (by omega)))⟩⟩) | (exact Or.inr ⟨by omega, ⟨by omega, by omega, Or.inl (by omega)⟩⟩) | (exact Or.inr ⟨by omega, ⟨by omega, by omega, Or.inr (Or.inl (by omega))⟩⟩) | (exact Or.inr ⟨by omega, ⟨by omega, by omega, Or.inr (Or.inr (by with_reducible assumption))⟩⟩) | (exact Or.inl ⟨by omega, y_Ms_b (by omega) (by omega) (by with_reducible assumption)⟩) | with_reducible assumption | omega | (exfalso; omega))
    · skip
      have e59 : (0 : Int32).toInt = 0 := rfl
      have c3' := c3
      rw [← Int32.toInt_inj] at c3'
      have e60 := y_or1 h0_r_2 c3'
      clear h0_r_2
      refine y_some ?_
      try dsimp only
      (first | (exact Or.inr ⟨by omega, ⟨by omega, by omega, Or.inr (Or.inr (y_B_eq (by omega)))⟩⟩) | (exact Or.inr ⟨by omega, ⟨by omega, by omega, Or.inl (by omega)⟩⟩) | (exact Or.inr ⟨by omega, ⟨by omega, by omega, Or.inr (Or.inl (by omega))⟩⟩) | (exact Or.inr ⟨by omega, ⟨by omega, by omega, Or.inr (Or.inr (by with_reducible assumption))⟩⟩) | (exact Or.inl ⟨by omega, y_Ms_b (by omega) (by omega) (by with_reducible assumption)⟩) | with_reducible assumption | omega | (exfalso; omega))
set_option maxHeartbeats 4000000 in
theorem ye_X9_may {g9_4 : Nat → Int32} {g9_5 : Nat → Int32} {p1 : Int32} {p2 : Int32} {v : Int} (k0 : 4 ≤ v) (k1 : v ≤ 200) (hU : y_Up g9_4) (k3 : 0 ≤ p1.toInt) (k4 : p1.toInt < 16777216) (k5 : p1.toInt % 65536 < v ∨ 65528 ≤ p1.toInt % 65536) (k6 : 0 ≤ p2.toInt) (k7 : p2.toInt < 16777216) (k8 : p2.toInt % 65536 < v ∨ 65528 ≤ p2.toInt % 65536) : y_Ok (f_X9_may g9_4 g9_5 p1 p2) (fun r => ((r.toInt = 0 ∧ ¬ (y_Mt v g9_4 g9_5 p1.toInt p2.toInt (p1 &&& 65535).toInt (p2 &&& 65535).toInt (Int32.toNatClampNeg (p2 &&& 65535)))) ∨ (r.toInt = 1 ∧ (y_Mt v g9_4 g9_5 p1.toInt p2.toInt (p1 &&& 65535).toInt (p2 &&& 65535).toInt (Int32.toNatClampNeg (p2 &&& 65535)))))) := by
  have hax := y_and16 p1
  have hay := y_and16 p2
  have hcx := @y_cl (p1 &&& 65535) (by omega)
  have hcy := @y_cl (p2 &&& 65535) (by omega)
  have hc1 := @y_cl p1 (by omega)
  have hc2 := @y_cl p2 (by omega)
  unfold f_X9_may
  refine y_if (fun c1 => ?_) (fun c1 => ?_)
  · skip
    have c1' := c1
    rw [← Int32.toInt_inj] at c1'
    have e2 : (1 : Int32).toInt = 1 := rfl
    refine y_some ?_
    try dsimp only
    (first | (exact Or.inr ⟨by omega, Or.inl (by omega)⟩) | (exact Or.inl ⟨by omega, y_Mt_n (by omega) (Or.inl (by omega))⟩) | (exact Or.inl ⟨by omega, y_Mt_n (by omega) (Or.inr (Or.inl (by omega)))⟩) | (exact Or.inl ⟨by omega, y_Mt_n (by omega) (Or.inr (Or.inr ⟨by omega, Or.inl (by omega)⟩))⟩) | (exact Or.inl ⟨by omega, y_Mt_n (by omega) (Or.inr (Or.inr ⟨by omega, Or.inr (by with_reducible assumption)⟩))⟩) | (exact Or.inr ⟨by omega, Or.inr ⟨by omega, by omega, Or.inl ⟨by omega, by omega⟩⟩⟩) | (exact Or.inr ⟨by omega, Or.inr ⟨by omega, by omega, Or.inr ⟨by omega, by with_reducible assumption⟩⟩⟩) | with_reducible assumption | omega | (exact Or.inr ⟨by omega, Or.inr ⟨by omega, by omega, Or.inr ⟨by omega, ⟨by omega, by omega, Or.inl (by omega)⟩⟩⟩⟩) | (exact Or.inr ⟨by omega, Or.inr ⟨by omega, by omega, Or.inr ⟨by omega, ⟨by omega, by omega, Or.inr (Or.inl (by rw [show Int32.toNatClampNeg (p2 &&& 65535) = Int32.toNatClampNeg p2 from (by omega)]; omega))⟩⟩⟩⟩) | (exact Or.inr ⟨by omega, Or.inr ⟨by omega, by omega, Or.inr ⟨by omega, ⟨by omega, by omega, Or.inr (Or.inr (by rw [show (p2 &&& 65535).toInt = p2.toInt from (by omega), show (p1 &&& 65535).toInt = p1.toInt from (by omega)]; with_reducible assumption))⟩⟩⟩⟩) | (exact Or.inl ⟨by omega, y_Mt_n (by omega) (Or.inr (Or.inr ⟨by omega, Or.inr (y_Ms_b (by omega) (by rw [show Int32.toNatClampNeg (p2 &&& 65535) = Int32.toNatClampNeg p2 from (by omega)]; omega) (by rw [show (p2 &&& 65535).toInt = p2.toInt from (by omega), show (p1 &&& 65535).toInt = p1.toInt from (by omega)]; with_reducible assumption))⟩))⟩) | (exact Or.inl ⟨by omega, y_Mt_n (by omega) (Or.inr (Or.inr ⟨by omega, Or.inr (y_Ms_n (by omega))⟩))⟩) | (exfalso; omega))
  · skip
    have c1' := c1
    rw [← Int32.toInt_inj] at c1'
    refine y_bi (y_X9_isPrimitive) (fun r_2 h_r_2 => ?_)
    have h0_r_2 : (r_2.toInt = 0 ∧ ¬ (65528 ≤ p1.toInt ∧ p1.toInt < 65536)) ∨ (r_2.toInt = 1 ∧ (65528 ≤ p1.toInt ∧ p1.toInt < 65536)) := h_r_2
    refine y_if (fun c3 => ?_) (fun c3 => ?_)
    · skip
      have e4 : (0 : Int32).toInt = 0 := rfl
      have c3' := c3
      rw [← Int32.toInt_inj] at c3'
      have e5 := y_or0 h0_r_2 c3'
      clear h0_r_2
      refine y_bi (y_X9_isPrimitive) (fun r_4 h_r_4 => ?_)
      have h0_r_4 : (r_4.toInt = 0 ∧ ¬ (65528 ≤ p2.toInt ∧ p2.toInt < 65536)) ∨ (r_4.toInt = 1 ∧ (65528 ≤ p2.toInt ∧ p2.toInt < 65536)) := h_r_4
      refine y_if (fun c6 => ?_) (fun c6 => ?_)
      · skip
        have c6' := c6
        rw [← Int32.toInt_inj] at c6'
        have e7 := y_or0 h0_r_4 c6'
        clear h0_r_4
        refine y_if (fun c8 => ?_) (fun c8 => ?_)
        · skip
          have e9 := y_sar16 p2
          have c8' := c8
          rw [← Int32.toInt_inj] at c8'
          refine y_if (fun c10 => ?_) (fun c10 => ?_)
          · skip
            have e11 := y_sar16 p1
            have c10' := c10
            rw [Int32.le_iff_toInt_le] at c10'
            refine y_if (fun c12 => ?_) (fun c12 => ?_)
            · skip
              have c12' := c12
              rw [← Int32.toInt_inj] at c12'
              have e13 : (1 : Int32).toInt = 1 := rfl
              refine y_some ?_
              try dsimp only
              (first | (exact Or.inr ⟨by omega, Or.inl (by omega)⟩) | (exact Or.inl ⟨by omega, y_Mt_n (by omega) (Or.inl (by omega))⟩) | (exact Or.inl ⟨by omega, y_Mt_n (by omega) (Or.inr (Or.inl (by omega)))⟩) | (exact Or.inl ⟨by omega, y_Mt_n (by omega) (Or.inr (Or.inr ⟨by omega, Or.inl (by omega)⟩))⟩) | (exact Or.inl ⟨by omega, y_Mt_n (by omega) (Or.inr (Or.inr ⟨by omega, Or.inr (by with_reducible assumption)⟩))⟩) | (exact Or.inr ⟨by omega, Or.inr ⟨by omega, by omega, Or.inl ⟨by omega, by omega⟩⟩⟩) | (exact Or.inr ⟨by omega, Or.inr ⟨by omega, by omega, Or.inr ⟨by omega, by with_reducible assumption⟩⟩⟩) | with_reducible assumption | omega | (exact Or.inr ⟨by omega, Or.inr ⟨by omega, by omega, Or.inr ⟨by omega, ⟨by omega, by omega, Or.inl (by omega)⟩⟩⟩⟩) | (exact Or.inr ⟨by omega, Or.inr ⟨by omega, by omega, Or.inr ⟨by omega, ⟨by omega, by omega, Or.inr (Or.inl (by rw [show Int32.toNatClampNeg (p2 &&& 65535) = Int32.toNatClampNeg p2 from (by omega)]; omega))⟩⟩⟩⟩) | (exact Or.inr ⟨by omega, Or.inr ⟨by omega, by omega, Or.inr ⟨by omega, ⟨by omega, by omega, Or.inr (Or.inr (by rw [show (p2 &&& 65535).toInt = p2.toInt from (by omega), show (p1 &&& 65535).toInt = p1.toInt from (by omega)]; with_reducible assumption))⟩⟩⟩⟩) | (exact Or.inl ⟨by omega, y_Mt_n (by omega) (Or.inr (Or.inr ⟨by omega, Or.inr (y_Ms_b (by omega) (by rw [show Int32.toNatClampNeg (p2 &&& 65535) = Int32.toNatClampNeg p2 from (by omega)]; omega) (by rw [show (p2 &&& 65535).toInt = p2.toInt from (by omega), show (p1 &&& 65535).toInt = p1.toInt from (by omega)]; with_reducible assumption))⟩))⟩) | (exact Or.inl ⟨by omega, y_Mt_n (by omega) (Or.inr (Or.inr ⟨by omega, Or.inr (y_Ms_n (by omega))⟩))⟩) | (exfalso; omega))
            · skip
              have c12' := c12
              rw [← Int32.toInt_inj] at c12'
              refine y_gd (y_gdI (by omega) (by omega)) ?_
              refine y_if (fun c14 => ?_) (fun c14 => ?_)
              · skip
                try have e15 := @y_cl p2 (by omega)
                have c14' := c14
                rw [← Int32.toInt_inj] at c14'
                refine y_bi (ye_X9_below (by first | (exact Or.inr ⟨by omega, Or.inl (by omega)⟩) | (exact Or.inl ⟨by omega, y_Mt_n (by omega) (Or.inl (by omega))⟩) | (exact Or.inl ⟨by omega, y_Mt_n (by omega) (Or.inr (Or.inl (by omega)))⟩) | (exact Or.inl ⟨by omega, y_Mt_n (by omega) (Or.inr (Or.inr ⟨by omega, Or.inl (by omega)⟩))⟩) | (exact Or.inl ⟨by omega, y_Mt_n (by omega) (Or.inr (Or.inr ⟨by omega, Or.inr (by with_reducible assumption)⟩))⟩) | (exact Or.inr ⟨by omega, Or.inr ⟨by omega, by omega, Or.inl ⟨by omega, by omega⟩⟩⟩) | (exact Or.inr ⟨by omega, Or.inr ⟨by omega, by omega, Or.inr ⟨by omega, by with_reducible assumption⟩⟩⟩) | with_reducible assumption | omega | (exact Or.inr ⟨by omega, Or.inr ⟨by omega, by omega, Or.inr ⟨by omega, ⟨by omega, by omega, Or.inl (by omega)⟩⟩⟩⟩) | (exact Or.inr ⟨by omega, Or.inr ⟨by omega, by omega, Or.inr ⟨by omega, ⟨by omega, by omega, Or.inr (Or.inl (by rw [show Int32.toNatClampNeg (p2 &&& 65535) = Int32.toNatClampNeg p2 from (by omega)]; omega))⟩⟩⟩⟩) | (exact Or.inr ⟨by omega, Or.inr ⟨by omega, by omega, Or.inr ⟨by omega, ⟨by omega, by omega, Or.inr (Or.inr (by rw [show (p2 &&& 65535).toInt = p2.toInt from (by omega), show (p1 &&& 65535).toInt = p1.toInt from (by omega)]; with_reducible assumption))⟩⟩⟩⟩) | (exact Or.inl ⟨by omega, y_Mt_n (by omega) (Or.inr (Or.inr ⟨by omega, Or.inr (y_Ms_b (by omega) (by rw [show Int32.toNatClampNeg (p2 &&& 65535) = Int32.toNatClampNeg p2 from (by omega)]; omega) (by rw [show (p2 &&& 65535).toInt = p2.toInt from (by omega), show (p1 &&& 65535).toInt = p1.toInt from (by omega)]; with_reducible assumption))⟩))⟩) | (exact Or.inl ⟨by omega, y_Mt_n (by omega) (Or.inr (Or.inr ⟨by omega, Or.inr (y_Ms_n (by omega))⟩))⟩) | (exfalso; omega)) (by omega) (by omega) (by omega)) (fun r_20 h_r_20 => ?_)
                have h0_r_20 : (r_20.toInt = 0 ∧ ¬ (y_B g9_4 p2.toInt p1.toInt)) ∨ (r_20.toInt = 1 ∧ (y_B g9_4 p2.toInt p1.toInt)) := h_r_20
                refine y_if (fun c16 => ?_) (fun c16 => ?_)
                · skip
                  have c16' := c16
                  rw [← Int32.toInt_inj] at c16'
                  have e17 := y_or0 h0_r_20 c16'
                  clear h0_r_20
                  refine y_some ?_
                  try dsimp only
                  (first | (exact Or.inr ⟨by omega, Or.inl (by omega)⟩) | (exact Or.inl ⟨by omega, y_Mt_n (by omega) (Or.inl (by omega))⟩) | (exact Or.inl ⟨by omega, y_Mt_n (by omega) (Or.inr (Or.inl (by omega)))⟩) | (exact Or.inl ⟨by omega, y_Mt_n (by omega) (Or.inr (Or.inr ⟨by omega, Or.inl (by omega)⟩))⟩) | (exact Or.inl ⟨by omega, y_Mt_n (by omega) (Or.inr (Or.inr ⟨by omega, Or.inr (by with_reducible assumption)⟩))⟩) | (exact Or.inr ⟨by omega, Or.inr ⟨by omega, by omega, Or.inl ⟨by omega, by omega⟩⟩⟩) | (exact Or.inr ⟨by omega, Or.inr ⟨by omega, by omega, Or.inr ⟨by omega, by with_reducible assumption⟩⟩⟩) | with_reducible assumption | omega | (exact Or.inr ⟨by omega, Or.inr ⟨by omega, by omega, Or.inr ⟨by omega, ⟨by omega, by omega, Or.inl (by omega)⟩⟩⟩⟩) | (exact Or.inr ⟨by omega, Or.inr ⟨by omega, by omega, Or.inr ⟨by omega, ⟨by omega, by omega, Or.inr (Or.inl (by rw [show Int32.toNatClampNeg (p2 &&& 65535) = Int32.toNatClampNeg p2 from (by omega)]; omega))⟩⟩⟩⟩) | (exact Or.inr ⟨by omega, Or.inr ⟨by omega, by omega, Or.inr ⟨by omega, ⟨by omega, by omega, Or.inr (Or.inr (by rw [show (p2 &&& 65535).toInt = p2.toInt from (by omega), show (p1 &&& 65535).toInt = p1.toInt from (by omega)]; with_reducible assumption))⟩⟩⟩⟩) | (exact Or.inl ⟨by omega, y_Mt_n (by omega) (Or.inr (Or.inr ⟨by omega, Or.inr (y_Ms_b (by omega) (by rw [show Int32.toNatClampNeg (p2 &&& 65535) = Int32.toNatClampNeg p2 from (by omega)]; omega) (by rw [show (p2 &&& 65535).toInt = p2.toInt from (by omega), show (p1 &&& 65535).toInt = p1.toInt from (by omega)]; with_reducible assumption))⟩))⟩) | (exact Or.inl ⟨by omega, y_Mt_n (by omega) (Or.inr (Or.inr ⟨by omega, Or.inr (y_Ms_n (by omega))⟩))⟩) | (exfalso; omega))
                · skip
                  have c16' := c16
                  rw [← Int32.toInt_inj] at c16'
                  have e18 := y_or1 h0_r_20 c16'
                  clear h0_r_20
                  have e19 : (1 : Int32).toInt = 1 := rfl
                  refine y_some ?_
                  try dsimp only
                  (first | (exact Or.inr ⟨by omega, Or.inl (by omega)⟩) | (exact Or.inl ⟨by omega, y_Mt_n (by omega) (Or.inl (by omega))⟩) | (exact Or.inl ⟨by omega, y_Mt_n (by omega) (Or.inr (Or.inl (by omega)))⟩) | (exact Or.inl ⟨by omega, y_Mt_n (by omega) (Or.inr (Or.inr ⟨by omega, Or.inl (by omega)⟩))⟩) | (exact Or.inl ⟨by omega, y_Mt_n (by omega) (Or.inr (Or.inr ⟨by omega, Or.inr (by with_reducible assumption)⟩))⟩) | (exact Or.inr ⟨by omega, Or.inr ⟨by omega, by omega, Or.inl ⟨by omega, by omega⟩⟩⟩) | (exact Or.inr ⟨by omega, Or.inr ⟨by omega, by omega, Or.inr ⟨by omega, by with_reducible assumption⟩⟩⟩) | with_reducible assumption | omega | (exact Or.inr ⟨by omega, Or.inr ⟨by omega, by omega, Or.inr ⟨by omega, ⟨by omega, by omega, Or.inl (by omega)⟩⟩⟩⟩) | (exact Or.inr ⟨by omega, Or.inr ⟨by omega, by omega, Or.inr ⟨by omega, ⟨by omega, by omega, Or.inr (Or.inl (by rw [show Int32.toNatClampNeg (p2 &&& 65535) = Int32.toNatClampNeg p2 from (by omega)]; omega))⟩⟩⟩⟩) | (exact Or.inr ⟨by omega, Or.inr ⟨by omega, by omega, Or.inr ⟨by omega, ⟨by omega, by omega, Or.inr (Or.inr (by rw [show (p2 &&& 65535).toInt = p2.toInt from (by omega), show (p1 &&& 65535).toInt = p1.toInt from (by omega)]; with_reducible assumption))⟩⟩⟩⟩) | (exact Or.inl ⟨by omega, y_Mt_n (by omega) (Or.inr (Or.inr ⟨by omega, Or.inr (y_Ms_b (by omega) (by rw [show Int32.toNatClampNeg (p2 &&& 65535) = Int32.toNatClampNeg p2 from (by omega)]; omega) (by rw [show (p2 &&& 65535).toInt = p2.toInt from (by omega), show (p1 &&& 65535).toInt = p1.toInt from (by omega)]; with_reducible assumption))⟩))⟩) | (exact Or.inl ⟨by omega, y_Mt_n (by omega) (Or.inr (Or.inr ⟨by omega, Or.inr (y_Ms_n (by omega))⟩))⟩) | (exfalso; omega))
              · skip
                try have e20 := @y_cl p2 (by omega)
                have c14' := c14
                rw [← Int32.toInt_inj] at c14'
                have e21 : (1 : Int32).toInt = 1 := rfl
                refine y_some ?_
                try dsimp only
                (first | (exact Or.inr ⟨by omega, Or.inl (by omega)⟩) | (exact Or.inl ⟨by omega, y_Mt_n (by omega) (Or.inl (by omega))⟩) | (exact Or.inl ⟨by omega, y_Mt_n (by omega) (Or.inr (Or.inl (by omega)))⟩) | (exact Or.inl ⟨by omega, y_Mt_n (by omega) (Or.inr (Or.inr ⟨by omega, Or.inl (by omega)⟩))⟩) | (exact Or.inl ⟨by omega, y_Mt_n (by omega) (Or.inr (Or.inr ⟨by omega, Or.inr (by with_reducible assumption)⟩))⟩) | (exact Or.inr ⟨by omega, Or.inr ⟨by omega, by omega, Or.inl ⟨by omega, by omega⟩⟩⟩) | (exact Or.inr ⟨by omega, Or.inr ⟨by omega, by omega, Or.inr ⟨by omega, by with_reducible assumption⟩⟩⟩) | with_reducible assumption | omega | (exact Or.inr ⟨by omega, Or.inr ⟨by omega, by omega, Or.inr ⟨by omega, ⟨by omega, by omega, Or.inl (by omega)⟩⟩⟩⟩) | (exact Or.inr ⟨by omega, Or.inr ⟨by omega, by omega, Or.inr ⟨by omega, ⟨by omega, by omega, Or.inr (Or.inl (by rw [show Int32.toNatClampNeg (p2 &&& 65535) = Int32.toNatClampNeg p2 from (by omega)]; omega))⟩⟩⟩⟩) | (exact Or.inr ⟨by omega, Or.inr ⟨by omega, by omega, Or.inr ⟨by omega, ⟨by omega, by omega, Or.inr (Or.inr (by rw [show (p2 &&& 65535).toInt = p2.toInt from (by omega), show (p1 &&& 65535).toInt = p1.toInt from (by omega)]; with_reducible assumption))⟩⟩⟩⟩) | (exact Or.inl ⟨by omega, y_Mt_n (by omega) (Or.inr (Or.inr ⟨by omega, Or.inr (y_Ms_b (by omega) (by rw [show Int32.toNatClampNeg (p2 &&& 65535) = Int32.toNatClampNeg p2 from (by omega)]; omega) (by rw [show (p2 &&& 65535).toInt = p2.toInt from (by omega), show (p1 &&& 65535).toInt = p1.toInt from (by omega)]; with_reducible assumption))⟩))⟩) | (exact Or.inl ⟨by omega, y_Mt_n (by omega) (Or.inr (Or.inr ⟨by omega, Or.inr (y_Ms_n (by omega))⟩))⟩) | (exfalso; omega))
          · skip
            have e22 := y_sar16 p1
            have c10' := c10
            rw [Int32.le_iff_toInt_le] at c10'
            refine y_if (fun c23 => ?_) (fun c23 => ?_)
            · skip
              have c23' := c23
              rw [← Int32.toInt_inj] at c23'
              have e24 : (1 : Int32).toInt = 1 := rfl
              refine y_some ?_
              try dsimp only
              (first | (exact Or.inr ⟨by omega, Or.inl (by omega)⟩) | (exact Or.inl ⟨by omega, y_Mt_n (by omega) (Or.inl (by omega))⟩) | (exact Or.inl ⟨by omega, y_Mt_n (by omega) (Or.inr (Or.inl (by omega)))⟩) | (exact Or.inl ⟨by omega, y_Mt_n (by omega) (Or.inr (Or.inr ⟨by omega, Or.inl (by omega)⟩))⟩) | (exact Or.inl ⟨by omega, y_Mt_n (by omega) (Or.inr (Or.inr ⟨by omega, Or.inr (by with_reducible assumption)⟩))⟩) | (exact Or.inr ⟨by omega, Or.inr ⟨by omega, by omega, Or.inl ⟨by omega, by omega⟩⟩⟩) | (exact Or.inr ⟨by omega, Or.inr ⟨by omega, by omega, Or.inr ⟨by omega, by with_reducible assumption⟩⟩⟩) | with_reducible assumption | omega | (exact Or.inr ⟨by omega, Or.inr ⟨by omega, by omega, Or.inr ⟨by omega, ⟨by omega, by omega, Or.inl (by omega)⟩⟩⟩⟩) | (exact Or.inr ⟨by omega, Or.inr ⟨by omega, by omega, Or.inr ⟨by omega, ⟨by omega, by omega, Or.inr (Or.inl (by rw [show Int32.toNatClampNeg (p2 &&& 65535) = Int32.toNatClampNeg p2 from (by omega)]; omega))⟩⟩⟩⟩) | (exact Or.inr ⟨by omega, Or.inr ⟨by omega, by omega, Or.inr ⟨by omega, ⟨by omega, by omega, Or.inr (Or.inr (by rw [show (p2 &&& 65535).toInt = p2.toInt from (by omega), show (p1 &&& 65535).toInt = p1.toInt from (by omega)]; with_reducible assumption))⟩⟩⟩⟩) | (exact Or.inl ⟨by omega, y_Mt_n (by omega) (Or.inr (Or.inr ⟨by omega, Or.inr (y_Ms_b (by omega) (by rw [show Int32.toNatClampNeg (p2 &&& 65535) = Int32.toNatClampNeg p2 from (by omega)]; omega) (by rw [show (p2 &&& 65535).toInt = p2.toInt from (by omega), show (p1 &&& 65535).toInt = p1.toInt from (by omega)]; with_reducible assumption))⟩))⟩) | (exact Or.inl ⟨by omega, y_Mt_n (by omega) (Or.inr (Or.inr ⟨by omega, Or.inr (y_Ms_n (by omega))⟩))⟩) | (exfalso; omega))
            · skip
              have c23' := c23
              rw [← Int32.toInt_inj] at c23'
              refine y_if (fun c25 => ?_) (fun c25 => ?_)
              · skip
                have e26 : (2 : Int32).toInt = 2 := rfl
                have c25' := c25
                rw [← Int32.toInt_inj] at c25'
                have e27 : (1 : Int32).toInt = 1 := rfl
                refine y_some ?_
                try dsimp only
                (first | (exact Or.inr ⟨by omega, Or.inl (by omega)⟩) | (exact Or.inl ⟨by omega, y_Mt_n (by omega) (Or.inl (by omega))⟩) | (exact Or.inl ⟨by omega, y_Mt_n (by omega) (Or.inr (Or.inl (by omega)))⟩) | (exact Or.inl ⟨by omega, y_Mt_n (by omega) (Or.inr (Or.inr ⟨by omega, Or.inl (by omega)⟩))⟩) | (exact Or.inl ⟨by omega, y_Mt_n (by omega) (Or.inr (Or.inr ⟨by omega, Or.inr (by with_reducible assumption)⟩))⟩) | (exact Or.inr ⟨by omega, Or.inr ⟨by omega, by omega, Or.inl ⟨by omega, by omega⟩⟩⟩) | (exact Or.inr ⟨by omega, Or.inr ⟨by omega, by omega, Or.inr ⟨by omega, by with_reducible assumption⟩⟩⟩) | with_reducible assumption | omega | (exact Or.inr ⟨by omega, Or.inr ⟨by omega, by omega, Or.inr ⟨by omega, ⟨by omega, by omega, Or.inl (by omega)⟩⟩⟩⟩) | (exact Or.inr ⟨by omega, Or.inr ⟨by omega, by omega, Or.inr ⟨by omega, ⟨by omega, by omega, Or.inr (Or.inl (by rw [show Int32.toNatClampNeg (p2 &&& 65535) = Int32.toNatClampNeg p2 from (by omega)]; omega))⟩⟩⟩⟩) | (exact Or.inr ⟨by omega, Or.inr ⟨by omega, by omega, Or.inr ⟨by omega, ⟨by omega, by omega, Or.inr (Or.inr (by rw [show (p2 &&& 65535).toInt = p2.toInt from (by omega), show (p1 &&& 65535).toInt = p1.toInt from (by omega)]; with_reducible assumption))⟩⟩⟩⟩) | (exact Or.inl ⟨by omega, y_Mt_n (by omega) (Or.inr (Or.inr ⟨by omega, Or.inr (y_Ms_b (by omega) (by rw [show Int32.toNatClampNeg (p2 &&& 65535) = Int32.toNatClampNeg p2 from (by omega)]; omega) (by rw [show (p2 &&& 65535).toInt = p2.toInt from (by omega), show (p1 &&& 65535).toInt = p1.toInt from (by omega)]; with_reducible assumption))⟩))⟩) | (exact Or.inl ⟨by omega, y_Mt_n (by omega) (Or.inr (Or.inr ⟨by omega, Or.inr (y_Ms_n (by omega))⟩))⟩) | (exfalso; omega))
              · skip
                have e28 : (2 : Int32).toInt = 2 := rfl
                have c25' := c25
                rw [← Int32.toInt_inj] at c25'
                refine y_if (fun c29 => ?_) (fun c29 => ?_)
                · skip
                  have e30 : (3 : Int32).toInt = 3 := rfl
                  have c29' := c29
                  rw [← Int32.toInt_inj] at c29'
                  have e31 : (1 : Int32).toInt = 1 := rfl
                  refine y_some ?_
                  try dsimp only
                  (first | (exact Or.inr ⟨by omega, Or.inl (by omega)⟩) | (exact Or.inl ⟨by omega, y_Mt_n (by omega) (Or.inl (by omega))⟩) | (exact Or.inl ⟨by omega, y_Mt_n (by omega) (Or.inr (Or.inl (by omega)))⟩) | (exact Or.inl ⟨by omega, y_Mt_n (by omega) (Or.inr (Or.inr ⟨by omega, Or.inl (by omega)⟩))⟩) | (exact Or.inl ⟨by omega, y_Mt_n (by omega) (Or.inr (Or.inr ⟨by omega, Or.inr (by with_reducible assumption)⟩))⟩) | (exact Or.inr ⟨by omega, Or.inr ⟨by omega, by omega, Or.inl ⟨by omega, by omega⟩⟩⟩) | (exact Or.inr ⟨by omega, Or.inr ⟨by omega, by omega, Or.inr ⟨by omega, by with_reducible assumption⟩⟩⟩) | with_reducible assumption | omega | (exact Or.inr ⟨by omega, Or.inr ⟨by omega, by omega, Or.inr ⟨by omega, ⟨by omega, by omega, Or.inl (by omega)⟩⟩⟩⟩) | (exact Or.inr ⟨by omega, Or.inr ⟨by omega, by omega, Or.inr ⟨by omega, ⟨by omega, by omega, Or.inr (Or.inl (by rw [show Int32.toNatClampNeg (p2 &&& 65535) = Int32.toNatClampNeg p2 from (by omega)]; omega))⟩⟩⟩⟩) | (exact Or.inr ⟨by omega, Or.inr ⟨by omega, by omega, Or.inr ⟨by omega, ⟨by omega, by omega, Or.inr (Or.inr (by rw [show (p2 &&& 65535).toInt = p2.toInt from (by omega), show (p1 &&& 65535).toInt = p1.toInt from (by omega)]; with_reducible assumption))⟩⟩⟩⟩) | (exact Or.inl ⟨by omega, y_Mt_n (by omega) (Or.inr (Or.inr ⟨by omega, Or.inr (y_Ms_b (by omega) (by rw [show Int32.toNatClampNeg (p2 &&& 65535) = Int32.toNatClampNeg p2 from (by omega)]; omega) (by rw [show (p2 &&& 65535).toInt = p2.toInt from (by omega), show (p1 &&& 65535).toInt = p1.toInt from (by omega)]; with_reducible assumption))⟩))⟩) | (exact Or.inl ⟨by omega, y_Mt_n (by omega) (Or.inr (Or.inr ⟨by omega, Or.inr (y_Ms_n (by omega))⟩))⟩) | (exfalso; omega))
                · skip
                  have e32 : (3 : Int32).toInt = 3 := rfl
                  have c29' := c29
                  rw [← Int32.toInt_inj] at c29'
                  refine y_some ?_
                  try dsimp only
                  (first | (exact Or.inr ⟨by omega, Or.inl (by omega)⟩) | (exact Or.inl ⟨by omega, y_Mt_n (by omega) (Or.inl (by omega))⟩) | (exact Or.inl ⟨by omega, y_Mt_n (by omega) (Or.inr (Or.inl (by omega)))⟩) | (exact Or.inl ⟨by omega, y_Mt_n (by omega) (Or.inr (Or.inr ⟨by omega, Or.inl (by omega)⟩))⟩) | (exact Or.inl ⟨by omega, y_Mt_n (by omega) (Or.inr (Or.inr ⟨by omega, Or.inr (by with_reducible assumption)⟩))⟩) | (exact Or.inr ⟨by omega, Or.inr ⟨by omega, by omega, Or.inl ⟨by omega, by omega⟩⟩⟩) | (exact Or.inr ⟨by omega, Or.inr ⟨by omega, by omega, Or.inr ⟨by omega, by with_reducible assumption⟩⟩⟩) | with_reducible assumption | omega | (exact Or.inr ⟨by omega, Or.inr ⟨by omega, by omega, Or.inr ⟨by omega, ⟨by omega, by omega, Or.inl (by omega)⟩⟩⟩⟩) | (exact Or.inr ⟨by omega, Or.inr ⟨by omega, by omega, Or.inr ⟨by omega, ⟨by omega, by omega, Or.inr (Or.inl (by rw [show Int32.toNatClampNeg (p2 &&& 65535) = Int32.toNatClampNeg p2 from (by omega)]; omega))⟩⟩⟩⟩) | (exact Or.inr ⟨by omega, Or.inr ⟨by omega, by omega, Or.inr ⟨by omega, ⟨by omega, by omega, Or.inr (Or.inr (by rw [show (p2 &&& 65535).toInt = p2.toInt from (by omega), show (p1 &&& 65535).toInt = p1.toInt from (by omega)]; with_reducible assumption))⟩⟩⟩⟩) | (exact Or.inl ⟨by omega, y_Mt_n (by omega) (Or.inr (Or.inr ⟨by omega, Or.inr (y_Ms_b (by omega) (by rw [show Int32.toNatClampNeg (p2 &&& 65535) = Int32.toNatClampNeg p2 from (by omega)]; omega) (by rw [show (p2 &&& 65535).toInt = p2.toInt from (by omega), show (p1 &&& 65535).toInt = p1.toInt from (by omega)]; with_reducible assumption))⟩))⟩) | (exact Or.inl ⟨by omega, y_Mt_n (by omega) (Or.inr (Or.inr ⟨by omega, Or.inr (y_Ms_n (by omega))⟩))⟩) | (exfalso; omega))
        · skip
          have e33 := y_sar16 p2
          have c8' := c8
          rw [← Int32.toInt_inj] at c8'
          refine y_if (fun c34 => ?_) (fun c34 => ?_)
          · skip
            have e35 := y_sar16 p1
            have c34' := c34
            rw [← Int32.toInt_inj] at c34'
            refine y_if (fun c36 => ?_) (fun c36 => ?_)
            · skip
              have e37 : (65528 : Int32).toInt = 65528 := rfl
              have e38 := y_and16 p1
              have c36' := c36
              rw [Int32.le_iff_toInt_le] at c36'
              refine y_some ?_
              try dsimp only
              (first | (exact Or.inr ⟨by omega, Or.inl (by omega)⟩) | (exact Or.inl ⟨by omega, y_Mt_n (by omega) (Or.inl (by omega))⟩) | (exact Or.inl ⟨by omega, y_Mt_n (by omega) (Or.inr (Or.inl (by omega)))⟩) | (exact Or.inl ⟨by omega, y_Mt_n (by omega) (Or.inr (Or.inr ⟨by omega, Or.inl (by omega)⟩))⟩) | (exact Or.inl ⟨by omega, y_Mt_n (by omega) (Or.inr (Or.inr ⟨by omega, Or.inr (by with_reducible assumption)⟩))⟩) | (exact Or.inr ⟨by omega, Or.inr ⟨by omega, by omega, Or.inl ⟨by omega, by omega⟩⟩⟩) | (exact Or.inr ⟨by omega, Or.inr ⟨by omega, by omega, Or.inr ⟨by omega, by with_reducible assumption⟩⟩⟩) | with_reducible assumption | omega | (exact Or.inr ⟨by omega, Or.inr ⟨by omega, by omega, Or.inr ⟨by omega, ⟨by omega, by omega, Or.inl (by omega)⟩⟩⟩⟩) | (exact Or.inr ⟨by omega, Or.inr ⟨by omega, by omega, Or.inr ⟨by omega, ⟨by omega, by omega, Or.inr (Or.inl (by rw [show Int32.toNatClampNeg (p2 &&& 65535) = Int32.toNatClampNeg p2 from (by omega)]; omega))⟩⟩⟩⟩) | (exact Or.inr ⟨by omega, Or.inr ⟨by omega, by omega, Or.inr ⟨by omega, ⟨by omega, by omega, Or.inr (Or.inr (by rw [show (p2 &&& 65535).toInt = p2.toInt from (by omega), show (p1 &&& 65535).toInt = p1.toInt from (by omega)]; with_reducible assumption))⟩⟩⟩⟩) | (exact Or.inl ⟨by omega, y_Mt_n (by omega) (Or.inr (Or.inr ⟨by omega, Or.inr (y_Ms_b (by omega) (by rw [show Int32.toNatClampNeg (p2 &&& 65535) = Int32.toNatClampNeg p2 from (by omega)]; omega) (by rw [show (p2 &&& 65535).toInt = p2.toInt from (by omega), show (p1 &&& 65535).toInt = p1.toInt from (by omega)]; with_reducible assumption))⟩))⟩) | (exact Or.inl ⟨by omega, y_Mt_n (by omega) (Or.inr (Or.inr ⟨by omega, Or.inr (y_Ms_n (by omega))⟩))⟩) | (exfalso; omega))
            · skip
              have e39 : (65528 : Int32).toInt = 65528 := rfl
              have e40 := y_and16 p1
              have c36' := c36
              rw [Int32.le_iff_toInt_le] at c36'
              refine y_if (fun c41 => ?_) (fun c41 => ?_)
              · skip
                have e42 := y_and16 p2
                have c41' := c41
                rw [Int32.le_iff_toInt_le] at c41'
                refine y_some ?_
                try dsimp only
                (first | (exact Or.inr ⟨by omega, Or.inl (by omega)⟩) | (exact Or.inl ⟨by omega, y_Mt_n (by omega) (Or.inl (by omega))⟩) | (exact Or.inl ⟨by omega, y_Mt_n (by omega) (Or.inr (Or.inl (by omega)))⟩) | (exact Or.inl ⟨by omega, y_Mt_n (by omega) (Or.inr (Or.inr ⟨by omega, Or.inl (by omega)⟩))⟩) | (exact Or.inl ⟨by omega, y_Mt_n (by omega) (Or.inr (Or.inr ⟨by omega, Or.inr (by with_reducible assumption)⟩))⟩) | (exact Or.inr ⟨by omega, Or.inr ⟨by omega, by omega, Or.inl ⟨by omega, by omega⟩⟩⟩) | (exact Or.inr ⟨by omega, Or.inr ⟨by omega, by omega, Or.inr ⟨by omega, by with_reducible assumption⟩⟩⟩) | with_reducible assumption | omega | (exact Or.inr ⟨by omega, Or.inr ⟨by omega, by omega, Or.inr ⟨by omega, ⟨by omega, by omega, Or.inl (by omega)⟩⟩⟩⟩) | (exact Or.inr ⟨by omega, Or.inr ⟨by omega, by omega, Or.inr ⟨by omega, ⟨by omega, by omega, Or.inr (Or.inl (by rw [show Int32.toNatClampNeg (p2 &&& 65535) = Int32.toNatClampNeg p2 from (by omega)]; omega))⟩⟩⟩⟩) | (exact Or.inr ⟨by omega, Or.inr ⟨by omega, by omega, Or.inr ⟨by omega, ⟨by omega, by omega, Or.inr (Or.inr (by rw [show (p2 &&& 65535).toInt = p2.toInt from (by omega), show (p1 &&& 65535).toInt = p1.toInt from (by omega)]; with_reducible assumption))⟩⟩⟩⟩) | (exact Or.inl ⟨by omega, y_Mt_n (by omega) (Or.inr (Or.inr ⟨by omega, Or.inr (y_Ms_b (by omega) (by rw [show Int32.toNatClampNeg (p2 &&& 65535) = Int32.toNatClampNeg p2 from (by omega)]; omega) (by rw [show (p2 &&& 65535).toInt = p2.toInt from (by omega), show (p1 &&& 65535).toInt = p1.toInt from (by omega)]; with_reducible assumption))⟩))⟩) | (exact Or.inl ⟨by omega, y_Mt_n (by omega) (Or.inr (Or.inr ⟨by omega, Or.inr (y_Ms_n (by omega))⟩))⟩) | (exfalso; omega))
              · skip
                have e43 := y_and16 p2
                have c41' := c41
                rw [Int32.le_iff_toInt_le] at c41'
                refine y_bi (ye_X9_may_0 (v := v) (by omega) (by omega) (by first | (exact Or.inr ⟨by omega, Or.inl (by omega)⟩) | (exact Or.inl ⟨by omega, y_Mt_n (by omega) (Or.inl (by omega))⟩) | (exact Or.inl ⟨by omega, y_Mt_n (by omega) (Or.inr (Or.inl (by omega)))⟩) | (exact Or.inl ⟨by omega, y_Mt_n (by omega) (Or.inr (Or.inr ⟨by omega, Or.inl (by omega)⟩))⟩) | (exact Or.inl ⟨by omega, y_Mt_n (by omega) (Or.inr (Or.inr ⟨by omega, Or.inr (by with_reducible assumption)⟩))⟩) | (exact Or.inr ⟨by omega, Or.inr ⟨by omega, by omega, Or.inl ⟨by omega, by omega⟩⟩⟩) | (exact Or.inr ⟨by omega, Or.inr ⟨by omega, by omega, Or.inr ⟨by omega, by with_reducible assumption⟩⟩⟩) | with_reducible assumption | omega | (exact Or.inr ⟨by omega, Or.inr ⟨by omega, by omega, Or.inr ⟨by omega, ⟨by omega, by omega, Or.inl (by omega)⟩⟩⟩⟩) | (exact Or.inr ⟨by omega, Or.inr ⟨by omega, by omega, Or.inr ⟨by omega, ⟨by omega, by omega, Or.inr (Or.inl (by rw [show Int32.toNatClampNeg (p2 &&& 65535) = Int32.toNatClampNeg p2 from (by omega)]; omega))⟩⟩⟩⟩) | (exact Or.inr ⟨by omega, Or.inr ⟨by omega, by omega, Or.inr ⟨by omega, ⟨by omega, by omega, Or.inr (Or.inr (by rw [show (p2 &&& 65535).toInt = p2.toInt from (by omega), show (p1 &&& 65535).toInt = p1.toInt from (by omega)]; with_reducible assumption))⟩⟩⟩⟩) | (exact Or.inl ⟨by omega, y_Mt_n (by omega) (Or.inr (Or.inr ⟨by omega, Or.inr (y_Ms_b (by omega) (by rw [show Int32.toNatClampNeg (p2 &&& 65535) = Int32.toNatClampNeg p2 from (by omega)]; omega) (by rw [show (p2 &&& 65535).toInt = p2.toInt from (by omega), show (p1 &&& 65535).toInt = p1.toInt from (by omega)]; with_reducible assumption))⟩))⟩) | (exact Or.inl ⟨by omega, y_Mt_n (by omega) (Or.inr (Or.inr ⟨by omega, Or.inr (y_Ms_n (by omega))⟩))⟩) | (exfalso; omega)) (by omega) (by omega) (by omega) (by omega)) (fun r_14 h_r_14 => ?_)
                have h0_r_14 : (r_14.toInt = 0 ∧ ¬ (y_Ms v g9_4 g9_5 (p1 &&& (65535 : Int32)).toInt (p2 &&& (65535 : Int32)).toInt (Int32.toNatClampNeg (p2 &&& (65535 : Int32))))) ∨ (r_14.toInt = 1 ∧ (y_Ms v g9_4 g9_5 (p1 &&& (65535 : Int32)).toInt (p2 &&& (65535 : Int32)).toInt (Int32.toNatClampNeg (p2 &&& (65535 : Int32))))) := h_r_14
                refine y_if (fun c44 => ?_) (fun c44 => ?_)
                · skip
                  have c44' := c44
                  rw [← Int32.toInt_inj] at c44'
                  have e45 := y_or0 h0_r_14 c44'
                  clear h0_r_14
                  refine y_some ?_
                  try dsimp only
                  (first | (exact Or.inr ⟨by omega, Or.inl (by omega)⟩) | (exact Or.inl ⟨by omega, y_Mt_n (by omega) (Or.inl (by omega))⟩) | (exact Or.inl ⟨by omega, y_Mt_n (by omega) (Or.inr (Or.inl (by omega)))⟩) | (exact Or.inl ⟨by omega, y_Mt_n (by omega) (Or.inr (Or.inr ⟨by omega, Or.inl (by omega)⟩))⟩) | (exact Or.inl ⟨by omega, y_Mt_n (by omega) (Or.inr (Or.inr ⟨by omega, Or.inr (by with_reducible assumption)⟩))⟩) | (exact Or.inr ⟨by omega, Or.inr ⟨by omega, by omega, Or.inl ⟨by omega, by omega⟩⟩⟩) | (exact Or.inr ⟨by omega, Or.inr ⟨by omega, by omega, Or.inr ⟨by omega, by with_reducible assumption⟩⟩⟩) | with_reducible assumption | omega | (exact Or.inr ⟨by omega, Or.inr ⟨by omega, by omega, Or.inr ⟨by omega, ⟨by omega, by omega, Or.inl (by omega)⟩⟩⟩⟩) | (exact Or.inr ⟨by omega, Or.inr ⟨by omega, by omega, Or.inr ⟨by omega, ⟨by omega, by omega, Or.inr (Or.inl (by rw [show Int32.toNatClampNeg (p2 &&& 65535) = Int32.toNatClampNeg p2 from (by omega)]; omega))⟩⟩⟩⟩) | (exact Or.inr ⟨by omega, Or.inr ⟨by omega, by omega, Or.inr ⟨by omega, ⟨by omega, by omega, Or.inr (Or.inr (by rw [show (p2 &&& 65535).toInt = p2.toInt from (by omega), show (p1 &&& 65535).toInt = p1.toInt from (by omega)]; with_reducible assumption))⟩⟩⟩⟩) | (exact Or.inl ⟨by omega, y_Mt_n (by omega) (Or.inr (Or.inr ⟨by omega, Or.inr (y_Ms_b (by omega) (by rw [show Int32.toNatClampNeg (p2 &&& 65535) = Int32.toNatClampNeg p2 from (by omega)]; omega) (by rw [show (p2 &&& 65535).toInt = p2.toInt from (by omega), show (p1 &&& 65535).toInt = p1.toInt from (by omega)]; with_reducible assumption))⟩))⟩) | (exact Or.inl ⟨by omega, y_Mt_n (by omega) (Or.inr (Or.inr ⟨by omega, Or.inr (y_Ms_n (by omega))⟩))⟩) | (exfalso; omega))
                · skip
                  have c44' := c44
                  rw [← Int32.toInt_inj] at c44'
                  have e46 := y_or1 h0_r_14 c44'
                  clear h0_r_14
                  have e47 : (1 : Int32).toInt = 1 := rfl
                  refine y_some ?_
                  try dsimp only
                  (first | (exact Or.inr ⟨by omega, Or.inl (by omega)⟩) | (exact Or.inl ⟨by omega, y_Mt_n (by omega) (Or.inl (by omega))⟩) | (exact Or.inl ⟨by omega, y_Mt_n (by omega) (Or.inr (Or.inl (by omega)))⟩) | (exact Or.inl ⟨by omega, y_Mt_n (by omega) (Or.inr (Or.inr ⟨by omega, Or.inl (by omega)⟩))⟩) | (exact Or.inl ⟨by omega, y_Mt_n (by omega) (Or.inr (Or.inr ⟨by omega, Or.inr (by with_reducible assumption)⟩))⟩) | (exact Or.inr ⟨by omega, Or.inr ⟨by omega, by omega, Or.inl ⟨by omega, by omega⟩⟩⟩) | (exact Or.inr ⟨by omega, Or.inr ⟨by omega, by omega, Or.inr ⟨by omega, by with_reducible assumption⟩⟩⟩) | with_reducible assumption | omega | (exact Or.inr ⟨by omega, Or.inr ⟨by omega, by omega, Or.inr ⟨by omega, ⟨by omega, by omega, Or.inl (by omega)⟩⟩⟩⟩) | (exact Or.inr ⟨by omega, Or.inr ⟨by omega, by omega, Or.inr ⟨by omega, ⟨by omega, by omega, Or.inr (Or.inl (by rw [show Int32.toNatClampNeg (p2 &&& 65535) = Int32.toNatClampNeg p2 from (by omega)]; omega))⟩⟩⟩⟩) | (exact Or.inr ⟨by omega, Or.inr ⟨by omega, by omega, Or.inr ⟨by omega, ⟨by omega, by omega, Or.inr (Or.inr (by rw [show (p2 &&& 65535).toInt = p2.toInt from (by omega), show (p1 &&& 65535).toInt = p1.toInt from (by omega)]; with_reducible assumption))⟩⟩⟩⟩) | (exact Or.inl ⟨by omega, y_Mt_n (by omega) (Or.inr (Or.inr ⟨by omega, Or.inr (y_Ms_b (by omega) (by rw [show Int32.toNatClampNeg (p2 &&& 65535) = Int32.toNatClampNeg p2 from (by omega)]; omega) (by rw [show (p2 &&& 65535).toInt = p2.toInt from (by omega), show (p1 &&& 65535).toInt = p1.toInt from (by omega)]; with_reducible assumption))⟩))⟩) | (exact Or.inl ⟨by omega, y_Mt_n (by omega) (Or.inr (Or.inr ⟨by omega, Or.inr (y_Ms_n (by omega))⟩))⟩) | (exfalso; omega))
          · skip
            have e48 := y_sar16 p1
            have c34' := c34
            rw [← Int32.toInt_inj] at c34'
            refine y_if (fun c49 => ?_) (fun c49 => ?_)
            · skip
              have c49' := c49
              rw [Int32.le_iff_toInt_le] at c49'
              refine y_some ?_
              try dsimp only
              (first | (exact Or.inr ⟨by omega, Or.inl (by omega)⟩) | (exact Or.inl ⟨by omega, y_Mt_n (by omega) (Or.inl (by omega))⟩) | (exact Or.inl ⟨by omega, y_Mt_n (by omega) (Or.inr (Or.inl (by omega)))⟩) | (exact Or.inl ⟨by omega, y_Mt_n (by omega) (Or.inr (Or.inr ⟨by omega, Or.inl (by omega)⟩))⟩) | (exact Or.inl ⟨by omega, y_Mt_n (by omega) (Or.inr (Or.inr ⟨by omega, Or.inr (by with_reducible assumption)⟩))⟩) | (exact Or.inr ⟨by omega, Or.inr ⟨by omega, by omega, Or.inl ⟨by omega, by omega⟩⟩⟩) | (exact Or.inr ⟨by omega, Or.inr ⟨by omega, by omega, Or.inr ⟨by omega, by with_reducible assumption⟩⟩⟩) | with_reducible assumption | omega | (exact Or.inr ⟨by omega, Or.inr ⟨by omega, by omega, Or.inr ⟨by omega, ⟨by omega, by omega, Or.inl (by omega)⟩⟩⟩⟩) | (exact Or.inr ⟨by omega, Or.inr ⟨by omega, by omega, Or.inr ⟨by omega, ⟨by omega, by omega, Or.inr (Or.inl (by rw [show Int32.toNatClampNeg (p2 &&& 65535) = Int32.toNatClampNeg p2 from (by omega)]; omega))⟩⟩⟩⟩) | (exact Or.inr ⟨by omega, Or.inr ⟨by omega, by omega, Or.inr ⟨by omega, ⟨by omega, by omega, Or.inr (Or.inr (by rw [show (p2 &&& 65535).toInt = p2.toInt from (by omega), show (p1 &&& 65535).toInt = p1.toInt from (by omega)]; with_reducible assumption))⟩⟩⟩⟩) | (exact Or.inl ⟨by omega, y_Mt_n (by omega) (Or.inr (Or.inr ⟨by omega, Or.inr (y_Ms_b (by omega) (by rw [show Int32.toNatClampNeg (p2 &&& 65535) = Int32.toNatClampNeg p2 from (by omega)]; omega) (by rw [show (p2 &&& 65535).toInt = p2.toInt from (by omega), show (p1 &&& 65535).toInt = p1.toInt from (by omega)]; with_reducible assumption))⟩))⟩) | (exact Or.inl ⟨by omega, y_Mt_n (by omega) (Or.inr (Or.inr ⟨by omega, Or.inr (y_Ms_n (by omega))⟩))⟩) | (exfalso; omega))
            · skip
              have c49' := c49
              rw [Int32.le_iff_toInt_le] at c49'
              refine y_if (fun c50 => ?_) (fun c50 => ?_)
              · skip
                have e51 := y_and16 p2
                have c50' := c50
                rw [← Int32.toInt_inj] at c50'
                have e52 : (1 : Int32).toInt = 1 := rfl
                refine y_some ?_
                try dsimp only
                (first | (exact Or.inr ⟨by omega, Or.inl (by omega)⟩) | (exact Or.inl ⟨by omega, y_Mt_n (by omega) (Or.inl (by omega))⟩) | (exact Or.inl ⟨by omega, y_Mt_n (by omega) (Or.inr (Or.inl (by omega)))⟩) | (exact Or.inl ⟨by omega, y_Mt_n (by omega) (Or.inr (Or.inr ⟨by omega, Or.inl (by omega)⟩))⟩) | (exact Or.inl ⟨by omega, y_Mt_n (by omega) (Or.inr (Or.inr ⟨by omega, Or.inr (by with_reducible assumption)⟩))⟩) | (exact Or.inr ⟨by omega, Or.inr ⟨by omega, by omega, Or.inl ⟨by omega, by omega⟩⟩⟩) | (exact Or.inr ⟨by omega, Or.inr ⟨by omega, by omega, Or.inr ⟨by omega, by with_reducible assumption⟩⟩⟩) | with_reducible assumption | omega | (exact Or.inr ⟨by omega, Or.inr ⟨by omega, by omega, Or.inr ⟨by omega, ⟨by omega, by omega, Or.inl (by omega)⟩⟩⟩⟩) | (exact Or.inr ⟨by omega, Or.inr ⟨by omega, by omega, Or.inr ⟨by omega, ⟨by omega, by omega, Or.inr (Or.inl (by rw [show Int32.toNatClampNeg (p2 &&& 65535) = Int32.toNatClampNeg p2 from (by omega)]; omega))⟩⟩⟩⟩) | (exact Or.inr ⟨by omega, Or.inr ⟨by omega, by omega, Or.inr ⟨by omega, ⟨by omega, by omega, Or.inr (Or.inr (by rw [show (p2 &&& 65535).toInt = p2.toInt from (by omega), show (p1 &&& 65535).toInt = p1.toInt from (by omega)]; with_reducible assumption))⟩⟩⟩⟩) | (exact Or.inl ⟨by omega, y_Mt_n (by omega) (Or.inr (Or.inr ⟨by omega, Or.inr (y_Ms_b (by omega) (by rw [show Int32.toNatClampNeg (p2 &&& 65535) = Int32.toNatClampNeg p2 from (by omega)]; omega) (by rw [show (p2 &&& 65535).toInt = p2.toInt from (by omega), show (p1 &&& 65535).toInt = p1.toInt from (by omega)]; with_reducible assumption))⟩))⟩) | (exact Or.inl ⟨by omega, y_Mt_n (by omega) (Or.inr (Or.inr ⟨by omega, Or.inr (y_Ms_n (by omega))⟩))⟩) | (exfalso; omega))
              · skip
                have e53 := y_and16 p2
                have c50' := c50
                rw [← Int32.toInt_inj] at c50'
                refine y_if (fun c54 => ?_) (fun c54 => ?_)
                · skip
                  have e55 : (2 : Int32).toInt = 2 := rfl
                  have c54' := c54
                  rw [← Int32.toInt_inj] at c54'
                  have e56 : (1 : Int32).toInt = 1 := rfl
                  refine y_some ?_
                  try dsimp only
                  (first | (exact Or.inr ⟨by omega, Or.inl (by omega)⟩) | (exact Or.inl ⟨by omega, y_Mt_n (by omega) (Or.inl (by omega))⟩) | (exact Or.inl ⟨by omega, y_Mt_n (by omega) (Or.inr (Or.inl (by omega)))⟩) | (exact Or.inl ⟨by omega, y_Mt_n (by omega) (Or.inr (Or.inr ⟨by omega, Or.inl (by omega)⟩))⟩) | (exact Or.inl ⟨by omega, y_Mt_n (by omega) (Or.inr (Or.inr ⟨by omega, Or.inr (by with_reducible assumption)⟩))⟩) | (exact Or.inr ⟨by omega, Or.inr ⟨by omega, by omega, Or.inl ⟨by omega, by omega⟩⟩⟩) | (exact Or.inr ⟨by omega, Or.inr ⟨by omega, by omega, Or.inr ⟨by omega, by with_reducible assumption⟩⟩⟩) | with_reducible assumption | omega | (exact Or.inr ⟨by omega, Or.inr ⟨by omega, by omega, Or.inr ⟨by omega, ⟨by omega, by omega, Or.inl (by omega)⟩⟩⟩⟩) | (exact Or.inr ⟨by omega, Or.inr ⟨by omega, by omega, Or.inr ⟨by omega, ⟨by omega, by omega, Or.inr (Or.inl (by rw [show Int32.toNatClampNeg (p2 &&& 65535) = Int32.toNatClampNeg p2 from (by omega)]; omega))⟩⟩⟩⟩) | (exact Or.inr ⟨by omega, Or.inr ⟨by omega, by omega, Or.inr ⟨by omega, ⟨by omega, by omega, Or.inr (Or.inr (by rw [show (p2 &&& 65535).toInt = p2.toInt from (by omega), show (p1 &&& 65535).toInt = p1.toInt from (by omega)]; with_reducible assumption))⟩⟩⟩⟩) | (exact Or.inl ⟨by omega, y_Mt_n (by omega) (Or.inr (Or.inr ⟨by omega, Or.inr (y_Ms_b (by omega) (by rw [show Int32.toNatClampNeg (p2 &&& 65535) = Int32.toNatClampNeg p2 from (by omega)]; omega) (by rw [show (p2 &&& 65535).toInt = p2.toInt from (by omega), show (p1 &&& 65535).toInt = p1.toInt from (by omega)]; with_reducible assumption))⟩))⟩) | (exact Or.inl ⟨by omega, y_Mt_n (by omega) (Or.inr (Or.inr ⟨by omega, Or.inr (y_Ms_n (by omega))⟩))⟩) | (exfalso; omega))
                · skip
                  have e57 : (2 : Int32).toInt = 2 := rfl
                  have c54' := c54
                  rw [← Int32.toInt_inj] at c54'
                  refine y_if (fun c58 => ?_) (fun c58 => ?_)
                  · skip
                    have e59 : (3 : Int32).toInt = 3 := rfl
                    have c58' := c58
                    rw [← Int32.toInt_inj] at c58'
                    have e60 : (1 : Int32).toInt = 1 := rfl
                    refine y_some ?_
                    try dsimp only
                    (first | (exact Or.inr ⟨by omega, Or.inl (by omega)⟩) | (exact Or.inl ⟨by omega, y_Mt_n (by omega) (Or.inl (by omega))⟩) | (exact Or.inl ⟨by omega, y_Mt_n (by omega) (Or.inr (Or.inl (by omega)))⟩) | (exact Or.inl ⟨by omega, y_Mt_n (by omega) (Or.inr (Or.inr ⟨by omega, Or.inl (by omega)⟩))⟩) | (exact Or.inl ⟨by omega, y_Mt_n (by omega) (Or.inr (Or.inr ⟨by omega, Or.inr (by with_reducible assumption)⟩))⟩) | (exact Or.inr ⟨by omega, Or.inr ⟨by omega, by omega, Or.inl ⟨by omega, by omega⟩⟩⟩) | (exact Or.inr ⟨by omega, Or.inr ⟨by omega, by omega, Or.inr ⟨by omega, by with_reducible assumption⟩⟩⟩) | with_reducible assumption | omega | (exact Or.inr ⟨by omega, Or.inr ⟨by omega, by omega, Or.inr ⟨by omega, ⟨by omega, by omega, Or.inl (by omega)⟩⟩⟩⟩) | (exact Or.inr ⟨by omega, Or.inr ⟨by omega, by omega, Or.inr ⟨by omega, ⟨by omega, by omega, Or.inr (Or.inl (by rw [show Int32.toNatClampNeg (p2 &&& 65535) = Int32.toNatClampNeg p2 from (by omega)]; omega))⟩⟩⟩⟩) | (exact Or.inr ⟨by omega, Or.inr ⟨by omega, by omega, Or.inr ⟨by omega, ⟨by omega, by omega, Or.inr (Or.inr (by rw [show (p2 &&& 65535).toInt = p2.toInt from (by omega), show (p1 &&& 65535).toInt = p1.toInt from (by omega)]; with_reducible assumption))⟩⟩⟩⟩) | (exact Or.inl ⟨by omega, y_Mt_n (by omega) (Or.inr (Or.inr ⟨by omega, Or.inr (y_Ms_b (by omega) (by rw [show Int32.toNatClampNeg (p2 &&& 65535) = Int32.toNatClampNeg p2 from (by omega)]; omega) (by rw [show (p2 &&& 65535).toInt = p2.toInt from (by omega), show (p1 &&& 65535).toInt = p1.toInt from (by omega)]; with_reducible assumption))⟩))⟩) | (exact Or.inl ⟨by omega, y_Mt_n (by omega) (Or.inr (Or.inr ⟨by omega, Or.inr (y_Ms_n (by omega))⟩))⟩) | (exfalso; omega))
                  · skip
                    have e61 : (3 : Int32).toInt = 3 := rfl
                    have c58' := c58
                    rw [← Int32.toInt_inj] at c58'
                    refine y_some ?_
                    try dsimp only
                    (first | (exact Or.inr ⟨by omega, Or.inl (by omega)⟩) | (exact Or.inl ⟨by omega, y_Mt_n (by omega) (Or.inl (by omega))⟩) | (exact Or.inl ⟨by omega, y_Mt_n (by omega) (Or.inr (Or.inl (by omega)))⟩) | (exact Or.inl ⟨by omega, y_Mt_n (by omega) (Or.inr (Or.inr ⟨by omega, Or.inl (by omega)⟩))⟩) | (exact Or.inl ⟨by omega, y_Mt_n (by omega) (Or.inr (Or.inr ⟨by omega, Or.inr (by with_reducible assumption)⟩))⟩) | (exact Or.inr ⟨by omega, Or.inr ⟨by omega, by omega, Or.inl ⟨by omega, by omega⟩⟩⟩) | (exact Or.inr ⟨by omega, Or.inr ⟨by omega, by omega, Or.inr ⟨by omega, by with_reducible assumption⟩⟩⟩) | with_reducible assumption | omega | (exact Or.inr ⟨by omega, Or.inr ⟨by omega, by omega, Or.inr ⟨by omega, ⟨by omega, by omega, Or.inl (by omega)⟩⟩⟩⟩) | (exact Or.inr ⟨by omega, Or.inr ⟨by omega, by omega, Or.inr ⟨by omega, ⟨by omega, by omega, Or.inr (Or.inl (by rw [show Int32.toNatClampNeg (p2 &&& 65535) = Int32.toNatClampNeg p2 from (by omega)]; omega))⟩⟩⟩⟩) | (exact Or.inr ⟨by omega, Or.inr ⟨by omega, by omega, Or.inr ⟨by omega, ⟨by omega, by omega, Or.inr (Or.inr (by rw [show (p2 &&& 65535).toInt = p2.toInt from (by omega), show (p1 &&& 65535).toInt = p1.toInt from (by omega)]; with_reducible assumption))⟩⟩⟩⟩) | (exact Or.inl ⟨by omega, y_Mt_n (by omega) (Or.inr (Or.inr ⟨by omega, Or.inr (y_Ms_b (by omega) (by rw [show Int32.toNatClampNeg (p2 &&& 65535) = Int32.toNatClampNeg p2 from (by omega)]; omega) (by rw [show (p2 &&& 65535).toInt = p2.toInt from (by omega), show (p1 &&& 65535).toInt = p1.toInt from (by omega)]; with_reducible assumption))⟩))⟩) | (exact Or.inl ⟨by omega, y_Mt_n (by omega) (Or.inr (Or.inr ⟨by omega, Or.inr (y_Ms_n (by omega))⟩))⟩) | (exfalso; omega))
      · skip
        have c6' := c6
        rw [← Int32.toInt_inj] at c6'
        have e62 := y_or1 h0_r_4 c6'
        clear h0_r_4
        refine y_some ?_
        try dsimp only
        (first | (exact Or.inr ⟨by omega, Or.inl (by omega)⟩) | (exact Or.inl ⟨by omega, y_Mt_n (by omega) (Or.inl (by omega))⟩) | (exact Or.inl ⟨by omega, y_Mt_n (by omega) (Or.inr (Or.inl (by omega)))⟩) | (exact Or.inl ⟨by omega, y_Mt_n (by omega) (Or.inr (Or.inr ⟨by omega, Or.inl (by omega)⟩))⟩) | (exact Or.inl ⟨by omega, y_Mt_n (by omega) (Or.inr (Or.inr ⟨by omega, Or.inr (by with_reducible assumption)⟩))⟩) | (exact Or.inr ⟨by omega, Or.inr ⟨by omega, by omega, Or.inl ⟨by omega, by omega⟩⟩⟩) | (exact Or.inr ⟨by omega, Or.inr ⟨by omega, by omega, Or.inr ⟨by omega, by with_reducible assumption⟩⟩⟩) | with_reducible assumption | omega | (exact Or.inr ⟨by omega, Or.inr ⟨by omega, by omega, Or.inr ⟨by omega, ⟨by omega, by omega, Or.inl (by omega)⟩⟩⟩⟩) | (exact Or.inr ⟨by omega, Or.inr ⟨by omega, by omega, Or.inr ⟨by omega, ⟨by omega, by omega, Or.inr (Or.inl (by rw [show Int32.toNatClampNeg (p2 &&& 65535) = Int32.toNatClampNeg p2 from (by omega)]; omega))⟩⟩⟩⟩) | (exact Or.inr ⟨by omega, Or.inr ⟨by omega, by omega, Or.inr ⟨by omega, ⟨by omega, by omega, Or.inr (Or.inr (by rw [show (p2 &&& 65535).toInt = p2.toInt from (by omega), show (p1 &&& 65535).toInt = p1.toInt from (by omega)]; with_reducible assumption))⟩⟩⟩⟩) | (exact Or.inl ⟨by omega, y_Mt_n (by omega) (Or.inr (Or.inr ⟨by omega, Or.inr (y_Ms_b (by omega) (by rw [show Int32.toNatClampNeg (p2 &&& 65535) = Int32.toNatClampNeg p2 from (by omega)]; omega) (by rw [show (p2 &&& 65535).toInt = p2.toInt from (by omega), show (p1 &&& 65535).toInt = p1.toInt from (by omega)]; with_reducible assumption))⟩))⟩) | (exact Or.inl ⟨by omega, y_Mt_n (by omega) (Or.inr (Or.inr ⟨by omega, Or.inr (y_Ms_n (by omega))⟩))⟩) | (exfalso; omega))
    · skip
      have e63 : (0 : Int32).toInt = 0 := rfl
      have c3' := c3
      rw [← Int32.toInt_inj] at c3'
      have e64 := y_or1 h0_r_2 c3'
      clear h0_r_2
      refine y_some ?_
      try dsimp only
      (first | (exact Or.inr ⟨by omega, Or.inl (by omega)⟩) | (exact Or.inl ⟨by omega, y_Mt_n (by omega) (Or.inl (by omega))⟩) | (exact Or.inl ⟨by omega, y_Mt_n (by omega) (Or.inr (Or.inl (by omega)))⟩) | (exact Or.inl ⟨by omega, y_Mt_n (by omega) (Or.inr (Or.inr ⟨by omega, Or.inl (by omega)⟩))⟩) | (exact Or.inl ⟨by omega, y_Mt_n (by omega) (Or.inr (Or.inr ⟨by omega, Or.inr (by with_reducible assumption)⟩))⟩) | (exact Or.inr ⟨by omega, Or.inr ⟨by omega, by omega, Or.inl ⟨by omega, by omega⟩⟩⟩) | (exact Or.inr ⟨by omega, Or.inr ⟨by omega, by omega, Or.inr ⟨by omega, by with_reducible assumption⟩⟩⟩) | with_reducible assumption | omega | (exact Or.inr ⟨by omega, Or.inr ⟨by omega, by omega, Or.inr ⟨by omega, ⟨by omega, by omega, Or.inl (by omega)⟩⟩⟩⟩) | (exact Or.inr ⟨by omega, Or.inr ⟨by omega, by omega, Or.inr ⟨by omega, ⟨by omega, by omega, Or.inr (Or.inl (by rw [show Int32.toNatClampNeg (p2 &&& 65535) = Int32.toNatClampNeg p2 from (by omega)]; omega))⟩⟩⟩⟩) | (exact Or.inr ⟨by omega, Or.inr ⟨by omega, by omega, Or.inr ⟨by omega, ⟨by omega, by omega, Or.inr (Or.inr (by rw [show (p2 &&& 65535).toInt = p2.toInt from (by omega), show (p1 &&& 65535).toInt = p1.toInt from (by omega)]; with_reducible assumption))⟩⟩⟩⟩) | (exact Or.inl ⟨by omega, y_Mt_n (by omega) (Or.inr (Or.inr ⟨by omega, Or.inr (y_Ms_b (by omega) (by rw [show Int32.toNatClampNeg (p2 &&& 65535) = Int32.toNatClampNeg p2 from (by omega)]; omega) (by rw [show (p2 &&& 65535).toInt = p2.toInt from (by omega), show (p1 &&& 65535).toInt = p1.toInt from (by omega)]; with_reducible assumption))⟩))⟩) | (exact Or.inl ⟨by omega, y_Mt_n (by omega) (Or.inr (Or.inr ⟨by omega, Or.inr (y_Ms_n (by omega))⟩))⟩) | (exfalso; omega))
set_option maxHeartbeats 4000000 in
theorem ex_stands {v7_2 : Int32} {g7_0 : Nat → Int32} {g7_1 : Nat → Int32} {p1 : Int32} {p2 : Int32} {v9_0 : Int32} {g9_4 : Nat → Int32} (k0 : 4 ≤ v7_2.toInt) (k1 : v7_2.toInt ≤ 200) (hU : y_Up g9_4) (hab : y_Ab g7_0 g9_4) : y_Ok ((f_X8_stands v7_2 g7_0 g7_1 p1 p2) >>= (fun R => (f_X9_stands v9_0 v7_2 g9_4 g7_1 p1 p2) >>= (fun S => some (R.1, R.2, S.1, S.2)))) (fun r => (r.2.2.2.toInt = r.1.toInt) ∧ (¬ r.1.toInt = 0 ∨ r.2.1.toInt = r.2.2.1.toInt)) := by
  unfold f_X8_stands f_X9_stands
  refine y_bt ?_
  refine y_bi (y_X7_isType (by omega) (by omega)) (fun r_1 h_r_1 => ?_)
  have h0_r_1 : (r_1.toInt = 0 ∧ ¬ (0 ≤ p1.toInt ∧ p1.toInt < 16777216 ∧ (p1.toInt % 65536 < v7_2.toInt ∨ 65528 ≤ p1.toInt % 65536))) ∨ (r_1.toInt = 1 ∧ (0 ≤ p1.toInt ∧ p1.toInt < 16777216 ∧ (p1.toInt % 65536 < v7_2.toInt ∨ 65528 ≤ p1.toInt % 65536))) := h_r_1
  refine y_if (fun c1 => ?_) (fun c1 => ?_)
  · skip
    have e2 : (0 : Int32).toInt = 0 := rfl
    have c1' := c1
    rw [← Int32.toInt_inj] at c1'
    have e3 := y_or0 h0_r_1 c1'
    clear h0_r_1
    refine y_some ?_
    try dsimp only
    refine y_bt ?_
    refine y_bi (y_X9_isType (by omega) (by omega)) (fun s_1 h_s_1 => ?_)
    have h0_s_1 : (s_1.toInt = 0 ∧ ¬ (0 ≤ p1.toInt ∧ p1.toInt < 16777216 ∧ (p1.toInt % 65536 < v7_2.toInt ∨ 65528 ≤ p1.toInt % 65536))) ∨ (s_1.toInt = 1 ∧ (0 ≤ p1.toInt ∧ p1.toInt < 16777216 ∧ (p1.toInt % 65536 < v7_2.toInt ∨ 65528 ≤ p1.toInt % 65536))) := h_s_1
    refine y_if (fun c4 => ?_) (fun c4 => ?_)
    · skip
      have c4' := c4
      rw [← Int32.toInt_inj] at c4'
      have e5 := y_or0 h0_s_1 c4'
      clear h0_s_1
      refine y_some ?_
      try dsimp only
      have e6 : (1 : Int32).toInt = 1 := rfl
      refine y_some ?_
      try dsimp only
      refine ⟨?_, ?_⟩ <;> (first | with_reducible rfl | with_reducible assumption | omega | (exfalso; omega) | (exact Or.inr (y_tw h_r_5 h_s_5)) | (exfalso; with_reducible contradiction))
    · skip
      have c4' := c4
      rw [← Int32.toInt_inj] at c4'
      have e7 := y_or1 h0_s_1 c4'
      clear h0_s_1
      refine y_bi (y_X9_isType (by omega) (by omega)) (fun s_3 h_s_3 => ?_)
      have h0_s_3 : (s_3.toInt = 0 ∧ ¬ (0 ≤ p2.toInt ∧ p2.toInt < 16777216 ∧ (p2.toInt % 65536 < v7_2.toInt ∨ 65528 ≤ p2.toInt % 65536))) ∨ (s_3.toInt = 1 ∧ (0 ≤ p2.toInt ∧ p2.toInt < 16777216 ∧ (p2.toInt % 65536 < v7_2.toInt ∨ 65528 ≤ p2.toInt % 65536))) := h_s_3
      refine y_if (fun c8 => ?_) (fun c8 => ?_)
      · skip
        have c8' := c8
        rw [← Int32.toInt_inj] at c8'
        have e9 := y_or0 h0_s_3 c8'
        clear h0_s_3
        refine y_some ?_
        try dsimp only
        have e10 : (1 : Int32).toInt = 1 := rfl
        refine y_some ?_
        try dsimp only
        refine ⟨?_, ?_⟩ <;> (first | with_reducible rfl | with_reducible assumption | omega | (exfalso; omega) | (exact Or.inr (y_tw h_r_5 h_s_5)) | (exfalso; with_reducible contradiction))
      · skip
        have c8' := c8
        rw [← Int32.toInt_inj] at c8'
        have e11 := y_or1 h0_s_3 c8'
        clear h0_s_3
        refine y_bi (ye_X9_may (v := v7_2.toInt) (by omega) (by omega) (by first | with_reducible rfl | with_reducible assumption | omega | (exfalso; omega) | (exact Or.inr (y_tw h_r_5 h_s_5)) | (exfalso; with_reducible contradiction)) (by omega) (by omega) (by omega) (by omega) (by omega) (by omega)) (fun s_5 h_s_5 => ?_)
        have h0_s_5 : (s_5.toInt = 0 ∧ ¬ (y_Mt v7_2.toInt g9_4 g7_1 p1.toInt p2.toInt (p1 &&& 65535).toInt (p2 &&& 65535).toInt (Int32.toNatClampNeg (p2 &&& 65535)))) ∨ (s_5.toInt = 1 ∧ (y_Mt v7_2.toInt g9_4 g7_1 p1.toInt p2.toInt (p1 &&& 65535).toInt (p2 &&& 65535).toInt (Int32.toNatClampNeg (p2 &&& 65535)))) := h_s_5
        refine y_some ?_
        try dsimp only
        have e12 : (1 : Int32).toInt = 1 := rfl
        refine y_some ?_
        try dsimp only
        refine ⟨?_, ?_⟩ <;> (first | with_reducible rfl | with_reducible assumption | omega | (exfalso; omega) | (exact Or.inr (y_tw h_r_5 h_s_5)) | (exfalso; with_reducible contradiction))
  · skip
    have e13 : (0 : Int32).toInt = 0 := rfl
    have c1' := c1
    rw [← Int32.toInt_inj] at c1'
    have e14 := y_or1 h0_r_1 c1'
    clear h0_r_1
    refine y_bi (y_X7_isType (by omega) (by omega)) (fun r_3 h_r_3 => ?_)
    have h0_r_3 : (r_3.toInt = 0 ∧ ¬ (0 ≤ p2.toInt ∧ p2.toInt < 16777216 ∧ (p2.toInt % 65536 < v7_2.toInt ∨ 65528 ≤ p2.toInt % 65536))) ∨ (r_3.toInt = 1 ∧ (0 ≤ p2.toInt ∧ p2.toInt < 16777216 ∧ (p2.toInt % 65536 < v7_2.toInt ∨ 65528 ≤ p2.toInt % 65536))) := h_r_3
    refine y_if (fun c15 => ?_) (fun c15 => ?_)
    · skip
      have c15' := c15
      rw [← Int32.toInt_inj] at c15'
      have e16 := y_or0 h0_r_3 c15'
      clear h0_r_3
      refine y_some ?_
      try dsimp only
      refine y_bt ?_
      refine y_bi (y_X9_isType (by omega) (by omega)) (fun s_1 h_s_1 => ?_)
      have h0_s_1 : (s_1.toInt = 0 ∧ ¬ (0 ≤ p1.toInt ∧ p1.toInt < 16777216 ∧ (p1.toInt % 65536 < v7_2.toInt ∨ 65528 ≤ p1.toInt % 65536))) ∨ (s_1.toInt = 1 ∧ (0 ≤ p1.toInt ∧ p1.toInt < 16777216 ∧ (p1.toInt % 65536 < v7_2.toInt ∨ 65528 ≤ p1.toInt % 65536))) := h_s_1
      refine y_if (fun c17 => ?_) (fun c17 => ?_)
      · skip
        have c17' := c17
        rw [← Int32.toInt_inj] at c17'
        have e18 := y_or0 h0_s_1 c17'
        clear h0_s_1
        refine y_some ?_
        try dsimp only
        have e19 : (1 : Int32).toInt = 1 := rfl
        refine y_some ?_
        try dsimp only
        refine ⟨?_, ?_⟩ <;> (first | with_reducible rfl | with_reducible assumption | omega | (exfalso; omega) | (exact Or.inr (y_tw h_r_5 h_s_5)) | (exfalso; with_reducible contradiction))
      · skip
        have c17' := c17
        rw [← Int32.toInt_inj] at c17'
        have e20 := y_or1 h0_s_1 c17'
        clear h0_s_1
        refine y_bi (y_X9_isType (by omega) (by omega)) (fun s_3 h_s_3 => ?_)
        have h0_s_3 : (s_3.toInt = 0 ∧ ¬ (0 ≤ p2.toInt ∧ p2.toInt < 16777216 ∧ (p2.toInt % 65536 < v7_2.toInt ∨ 65528 ≤ p2.toInt % 65536))) ∨ (s_3.toInt = 1 ∧ (0 ≤ p2.toInt ∧ p2.toInt < 16777216 ∧ (p2.toInt % 65536 < v7_2.toInt ∨ 65528 ≤ p2.toInt % 65536))) := h_s_3
        refine y_if (fun c21 => ?_) (fun c21 => ?_)
        · skip
          have c21' := c21
          rw [← Int32.toInt_inj] at c21'
          have e22 := y_or0 h0_s_3 c21'
          clear h0_s_3
          refine y_some ?_
          try dsimp only
          have e23 : (1 : Int32).toInt = 1 := rfl
          refine y_some ?_
          try dsimp only
          refine ⟨?_, ?_⟩ <;> (first | with_reducible rfl | with_reducible assumption | omega | (exfalso; omega) | (exact Or.inr (y_tw h_r_5 h_s_5)) | (exfalso; with_reducible contradiction))
        · skip
          have c21' := c21
          rw [← Int32.toInt_inj] at c21'
          have e24 := y_or1 h0_s_3 c21'
          clear h0_s_3
          refine y_bi (ye_X9_may (v := v7_2.toInt) (by omega) (by omega) (by first | with_reducible rfl | with_reducible assumption | omega | (exfalso; omega) | (exact Or.inr (y_tw h_r_5 h_s_5)) | (exfalso; with_reducible contradiction)) (by omega) (by omega) (by omega) (by omega) (by omega) (by omega)) (fun s_5 h_s_5 => ?_)
          have h0_s_5 : (s_5.toInt = 0 ∧ ¬ (y_Mt v7_2.toInt g9_4 g7_1 p1.toInt p2.toInt (p1 &&& 65535).toInt (p2 &&& 65535).toInt (Int32.toNatClampNeg (p2 &&& 65535)))) ∨ (s_5.toInt = 1 ∧ (y_Mt v7_2.toInt g9_4 g7_1 p1.toInt p2.toInt (p1 &&& 65535).toInt (p2 &&& 65535).toInt (Int32.toNatClampNeg (p2 &&& 65535)))) := h_s_5
          refine y_some ?_
          try dsimp only
          have e25 : (1 : Int32).toInt = 1 := rfl
          refine y_some ?_
          try dsimp only
          refine ⟨?_, ?_⟩ <;> (first | with_reducible rfl | with_reducible assumption | omega | (exfalso; omega) | (exact Or.inr (y_tw h_r_5 h_s_5)) | (exfalso; with_reducible contradiction))
    · skip
      have c15' := c15
      rw [← Int32.toInt_inj] at c15'
      have e26 := y_or1 h0_r_3 c15'
      clear h0_r_3
      refine y_bi (ye_X7_mayStand (g9_4 := g9_4) (by omega) (by omega) (by first | with_reducible rfl | with_reducible assumption | omega | (exfalso; omega) | (exact Or.inr (y_tw h_r_5 h_s_5)) | (exfalso; with_reducible contradiction)) (by first | with_reducible rfl | with_reducible assumption | omega | (exfalso; omega) | (exact Or.inr (y_tw h_r_5 h_s_5)) | (exfalso; with_reducible contradiction)) (by omega) (by omega) (by omega) (by omega)) (fun r_5 h_r_5 => ?_)
      have h0_r_5 : (r_5.toInt = 0 ∧ ¬ (y_Mt v7_2.toInt g9_4 g7_1 p1.toInt p2.toInt (p1 &&& 65535).toInt (p2 &&& 65535).toInt (Int32.toNatClampNeg (p2 &&& 65535)))) ∨ (r_5.toInt = 1 ∧ (y_Mt v7_2.toInt g9_4 g7_1 p1.toInt p2.toInt (p1 &&& 65535).toInt (p2 &&& 65535).toInt (Int32.toNatClampNeg (p2 &&& 65535)))) := h_r_5
      refine y_some ?_
      try dsimp only
      refine y_bt ?_
      refine y_bi (y_X9_isType (by omega) (by omega)) (fun s_1 h_s_1 => ?_)
      have h0_s_1 : (s_1.toInt = 0 ∧ ¬ (0 ≤ p1.toInt ∧ p1.toInt < 16777216 ∧ (p1.toInt % 65536 < v7_2.toInt ∨ 65528 ≤ p1.toInt % 65536))) ∨ (s_1.toInt = 1 ∧ (0 ≤ p1.toInt ∧ p1.toInt < 16777216 ∧ (p1.toInt % 65536 < v7_2.toInt ∨ 65528 ≤ p1.toInt % 65536))) := h_s_1
      refine y_if (fun c27 => ?_) (fun c27 => ?_)
      · skip
        have c27' := c27
        rw [← Int32.toInt_inj] at c27'
        have e28 := y_or0 h0_s_1 c27'
        clear h0_s_1
        refine y_some ?_
        try dsimp only
        have e29 : (1 : Int32).toInt = 1 := rfl
        refine y_some ?_
        try dsimp only
        refine ⟨?_, ?_⟩ <;> (first | with_reducible rfl | with_reducible assumption | omega | (exfalso; omega) | (exact Or.inr (y_tw h_r_5 h_s_5)) | (exfalso; with_reducible contradiction))
      · skip
        have c27' := c27
        rw [← Int32.toInt_inj] at c27'
        have e30 := y_or1 h0_s_1 c27'
        clear h0_s_1
        refine y_bi (y_X9_isType (by omega) (by omega)) (fun s_3 h_s_3 => ?_)
        have h0_s_3 : (s_3.toInt = 0 ∧ ¬ (0 ≤ p2.toInt ∧ p2.toInt < 16777216 ∧ (p2.toInt % 65536 < v7_2.toInt ∨ 65528 ≤ p2.toInt % 65536))) ∨ (s_3.toInt = 1 ∧ (0 ≤ p2.toInt ∧ p2.toInt < 16777216 ∧ (p2.toInt % 65536 < v7_2.toInt ∨ 65528 ≤ p2.toInt % 65536))) := h_s_3
        refine y_if (fun c31 => ?_) (fun c31 => ?_)
        · skip
          have c31' := c31
          rw [← Int32.toInt_inj] at c31'
          have e32 := y_or0 h0_s_3 c31'
          clear h0_s_3
          refine y_some ?_
          try dsimp only
          have e33 : (1 : Int32).toInt = 1 := rfl
          refine y_some ?_
          try dsimp only
          refine ⟨?_, ?_⟩ <;> (first | with_reducible rfl | with_reducible assumption | omega | (exfalso; omega) | (exact Or.inr (y_tw h_r_5 h_s_5)) | (exfalso; with_reducible contradiction))
        · skip
          have c31' := c31
          rw [← Int32.toInt_inj] at c31'
          have e34 := y_or1 h0_s_3 c31'
          clear h0_s_3
          refine y_bi (ye_X9_may (v := v7_2.toInt) (by omega) (by omega) (by first | with_reducible rfl | with_reducible assumption | omega | (exfalso; omega) | (exact Or.inr (y_tw h_r_5 h_s_5)) | (exfalso; with_reducible contradiction)) (by omega) (by omega) (by omega) (by omega) (by omega) (by omega)) (fun s_5 h_s_5 => ?_)
          have h0_s_5 : (s_5.toInt = 0 ∧ ¬ (y_Mt v7_2.toInt g9_4 g7_1 p1.toInt p2.toInt (p1 &&& 65535).toInt (p2 &&& 65535).toInt (Int32.toNatClampNeg (p2 &&& 65535)))) ∨ (s_5.toInt = 1 ∧ (y_Mt v7_2.toInt g9_4 g7_1 p1.toInt p2.toInt (p1 &&& 65535).toInt (p2 &&& 65535).toInt (Int32.toNatClampNeg (p2 &&& 65535)))) := h_s_5
          refine y_some ?_
          try dsimp only
          refine y_some ?_
          try dsimp only
          refine ⟨?_, ?_⟩ <;> (first | with_reducible rfl | with_reducible assumption | omega | (exfalso; omega) | (exact Or.inr (y_tw h_r_5 h_s_5)) | (exfalso; with_reducible contradiction))
set_option maxHeartbeats 4000000 in
theorem u2_stands {v7_2 : Int32} {g7_0 : Nat → Int32} {g7_1 : Nat → Int32} {p1 : Int32} {p2 : Int32} {v9_0 : Int32} {v9_1 : Int32} {g9_4 : Nat → Int32} {g9_5 : Nat → Int32} {v4_2 : Int32} {v4_8 : Int32} {g4_7 : Nat → Int32} {v0_6 : Int32} {v0_15 : Int32} {v0_10 : Int32} {g0_7 : Nat → Int32} {g0_12 : Nat → Int32} {g0_13 : Nat → Int32} {v9_2 : Int32} {v9_3 : Int32} {g9_10 : Nat → Int32} {v9_18 : Int32} {v9_21 : Int32} {v9_20 : Int32} {g9_23 : Nat → Int32} {g9_27 : Nat → Int32} {R : Int32 × Int32} {S : Int32 × Int32} (hu : y_U2 v7_2 g7_0 g7_1 v4_2 v4_8 g4_7 v0_6 v0_15 v0_10 g0_7 g0_12 g0_13 v9_1 g9_4 g9_5 v9_2 v9_3 g9_10 v9_18 v9_21 v9_20 g9_23 g9_27) (h7 : y_K7 v7_2 g7_0) (ha : y_Ka v9_1 g9_4) (h8 : f_X8_stands v7_2 g7_0 g7_1 p1 p2 = some R) (h9 : f_X9_stands v9_0 v9_1 g9_4 g9_5 p1 p2 = some S) : (S.2 = R.1 ∧ (R.1 = 0 → R.2 = S.1)) ∧ y_U2 v7_2 g7_0 g7_1 v4_2 v4_8 g4_7 v0_6 v0_15 v0_10 g0_7 g0_12 g0_13 v9_1 g9_4 g9_5 v9_2 v9_3 g9_10 v9_18 v9_21 v9_20 g9_23 g9_27 := by
  have hu9 := hu
  obtain ⟨hu, e1, e2, hSC⟩ := hu
  refine ⟨?_, hu9⟩
  obtain ⟨rfl, rfl, hab, rfl, rfl, hTK, rfl, rfl⟩ := hu
  obtain ⟨q7_0, q7_1, q7_2⟩ := h7
  obtain ⟨qa_0, qa_1, qa_2⟩ := ha
  have h := y_two (F := fun R S => (R.1, R.2, S.1, S.2)) (ex_stands (by first | with_reducible assumption | omega) (by first | with_reducible assumption | omega) (by first | with_reducible assumption | omega) (by first | with_reducible assumption | omega)) h8 h9
  dsimp only at h
  obtain ⟨e10, e11⟩ := h
  exact ⟨Int32.toInt_inj.mp e10, fun hz => Int32.toInt_inj.mp (e11.resolve_left (fun hn => hn (by rw [hz]; rfl)))⟩
