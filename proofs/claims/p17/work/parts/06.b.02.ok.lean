/-! for the class: arrays that grow, what is awaited -/
theorem y_tn0 : Int32.toNatClampNeg 0 = 0 := rfl
theorem y_Eq_cpy {N c : Nat} {f z : Nat → Int32} (h : N ≤ c) : y_Eq N f (va_cpy f z (Int32.toNatClampNeg 0) (Int32.toNatClampNeg 0) c) := by
  intro k hk
  unfold va_cpy
  rw [y_tn0, if_pos (by omega)]
  congr 1
  omega
theorem y_AV_cpy {n sp dp c m : Nat} {f g : Nat → Int32} (hf : y_AV m f) (hm : sp + c ≤ m) (hg : y_AV n g) : y_AV n (va_cpy f g sp dp c) := by
  intro k hk
  unfold va_cpy
  by_cases e : dp ≤ k ∧ k < dp + c
  · rw [if_pos e]; exact hf _ (by omega)
  · rw [if_neg e]; exact hg k hk
theorem y_AV_z0 (n : Nat) : y_AV n x_z0 := by
  intro k _
  exact y_Vl (v := (0 : Int32)) (by decide) (by decide)
theorem y_AV_grow {n m c : Nat} {f : Nat → Int32} (hf : y_AV m f) (hm : c ≤ m) : y_AV n (va_cpy f x_z0 (Int32.toNatClampNeg 0) (Int32.toNatClampNeg 0) c) := y_AV_cpy hf (by rw [y_tn0]; omega) (y_AV_z0 n)
theorem y_AV.mono {n m : Nat} {g : Nat → Int32} (h : y_AV n g) (hm : m ≤ n) : y_AV m g := fun k hk => h k (by omega)
theorem y_RI_eq {n lo hi : Int} {N : Nat} {f g : Nat → Int32} (h : y_RI n lo hi f) (he : y_Eq N f g) (hN : n ≤ N) : y_RI n lo hi g := by
  intro k hk
  rw [he k (by omega)]
  exact h k hk
theorem y_R1_eq {n lo hi : Int} {N : Nat} {f g : Nat → Int32} (h : y_R1 n lo hi f) (he : y_Eq N f g) (hN : n ≤ N) : y_R1 n lo hi g := by
  intro k h0 hk
  rw [he k (by omega)]
  exact h k h0 hk
theorem y_R1m {n lo hi n2 lo2 hi2 : Int} {g : Nat → Int32} (h : y_R1 n lo hi g) (h0 : n2 ≤ n) (h1 : lo2 ≤ lo) (h2 : hi ≤ hi2) : y_R1 n2 lo2 hi2 g := by
  intro k h3 hk
  have := h k h3 (by omega)
  omega
theorem y_R1v {n lo hi n2 lo2 hi2 : Int} {g : Nat → Int32} {i : Nat} {v : Int32} (h : y_R1 n lo hi g) (h1 : lo2 ≤ lo) (h2 : hi ≤ hi2) (h3 : lo2 ≤ v.toInt) (h4 : v.toInt ≤ hi2) (h5 : n2 ≤ n ∨ n2 = n + 1 ∧ (i : Int) = n) : y_R1 n2 lo2 hi2 (upd g i v) := by
  intro k h0 hk
  unfold upd
  by_cases e : k = i
  · rw [if_pos e]; exact ⟨h3, h4⟩
  · rw [if_neg e]
    have := h k h0 (by omega)
    omega
theorem y_RIn1 {n lo hi n2 lo2 hi2 : Int} {g : Nat → Int32} {i : Nat} (h : y_RI n lo hi g) (h1 : lo2 ≤ lo) (h2 : hi ≤ hi2) (h3 : lo2 ≤ -1) (h4 : -1 ≤ hi2) (h5 : n2 ≤ n ∨ n2 = n + 1 ∧ (i : Int) = n) : y_RI n2 lo2 hi2 (upd g i (-1)) := y_RIu h h1 h2 h3 h4 h5
/-- parents: each below n, the first its own -/
def y_P (n : Int) (g : Nat → Int32) : Prop := ∀ k : Nat, (k : Int) < n → 0 ≤ (g k).toInt ∧ (g k).toInt < n ∧ (k = 0 → (g k).toInt = 0)
theorem y_P.at {n : Int} {g : Nat → Int32} (h : y_P n g) (k : Nat) (hk : (k : Int) < n) : 0 ≤ (g k).toInt ∧ (g k).toInt < n := ⟨(h k hk).1, (h k hk).2.1⟩
theorem y_P_eq {n : Int} {N : Nat} {f g : Nat → Int32} (h : y_P n f) (he : y_Eq N f g) (hN : n ≤ N) : y_P n g := by
  intro k hk
  rw [he k (by omega)]
  exact h k hk
theorem y_P_put {n n2 : Int} {g : Nat → Int32} {i : Nat} {v : Int32} (h : y_P n g) (h0 : 1 ≤ n) (hi : (i : Int) = n) (hn : n2 = n + 1) (h3 : 0 ≤ v.toInt) (h4 : v.toInt < n) : y_P n2 (upd g i v) := by
  intro k hk
  by_cases e : k = i
  · subst e; rw [y_upd1]; omega
  · rw [y_upd2 e]
    have := h k (by omega)
    omega
theorem y_P1 {n : Int} {g : Nat → Int32} (h : y_P n g) (h1 : 1 ≤ n) : y_P 1 g := by
  intro k hk
  have := h k (by omega)
  omega
/-- brothers: none or each below n, the first none -/
def y_PN (n : Int) (g : Nat → Int32) : Prop := ∀ k : Nat, (k : Int) < n → -1 ≤ (g k).toInt ∧ (g k).toInt < n ∧ (k = 0 → (g k).toInt = 0)
theorem y_PN.at {n : Int} {g : Nat → Int32} (h : y_PN n g) (k : Nat) (hk : (k : Int) < n) : -1 ≤ (g k).toInt ∧ (g k).toInt < n := ⟨(h k hk).1, (h k hk).2.1⟩
theorem y_PN_eq {n : Int} {N : Nat} {f g : Nat → Int32} (h : y_PN n f) (he : y_Eq N f g) (hN : n ≤ N) : y_PN n g := by
  intro k hk
  rw [he k (by omega)]
  exact h k hk
theorem y_PN_put {n n2 : Int} {g : Nat → Int32} {i : Nat} {v : Int32} (h : y_PN n g) (h0 : 1 ≤ n) (hi : (i : Int) = n) (hn : n2 = n + 1) (h3 : -1 ≤ v.toInt) (h4 : v.toInt < n) : y_PN n2 (upd g i v) := by
  intro k hk
  by_cases e : k = i
  · subst e; rw [y_upd1]; omega
  · rw [y_upd2 e]
    have := h k (by omega)
    omega
theorem y_PN1 {n : Int} {g : Nat → Int32} (h : y_PN n g) (h1 : 1 ≤ n) : y_PN 1 g := by
  intro k hk
  have := h k (by omega)
  omega
/-- what is awaited: a row of FRAMES, each once -/
def y_AW (n f l : Int) (g : Nat → Int32) : Prop := (-1 ≤ f ∧ f < n ∧ -1 ≤ l ∧ l < n) ∧ (∀ k : Nat, (k : Int) < n → -2 ≤ (g k).toInt ∧ (g k).toInt < n) ∧ (∀ k j : Nat, (k : Int) < n → (g k).toInt = j → -1 ≤ (g j).toInt) ∧ (∀ k : Nat, (k : Int) = f → -1 ≤ (g k).toInt) ∧ (∀ k : Nat, (k : Int) < n → 0 ≤ f → (g k).toInt ≠ f) ∧ (∀ k j : Nat, (k : Int) < n → (j : Int) < n → 0 ≤ (g k).toInt → (g k).toInt = (g j).toInt → k = j) ∧ (f = -1 → l = -1) ∧ (0 ≤ f → 0 ≤ l) ∧ (∀ k : Nat, (k : Int) = l → (g k).toInt = -1)
theorem y_AW.b {n f l : Int} {g : Nat → Int32} (h : y_AW n f l g) : -1 ≤ f ∧ f < n ∧ -1 ≤ l ∧ l < n := h.1
theorem y_AW.at {n f l : Int} {g : Nat → Int32} (h : y_AW n f l g) (k : Nat) (hk : (k : Int) < n) : -2 ≤ (g k).toInt ∧ (g k).toInt < n := h.2.1 k hk
theorem y_AW0 {n f l : Int} {g : Nat → Int32} (hn : n = 0) (hf : f = -1) (hl : l = -1) : y_AW n f l g := ⟨by omega, fun k hk => by omega, fun k j hk => by omega, fun k hk => by omega, fun k hk => by omega, fun k j hk => by omega, fun _ => hl, by omega, fun k hk => by omega⟩
theorem y_AW_eq {n f l : Int} {N : Nat} {g g2 : Nat → Int32} (h : y_AW n f l g) (he : y_Eq N g g2) (hN : n ≤ N) : y_AW n f l g2 := by
  obtain ⟨h1, h2, h3, h4, h5, h6, h7, h8, h9⟩ := h
  refine ⟨h1, ?_, ?_, ?_, ?_, ?_, h7, h8, ?_⟩
  · intro k hk; rw [he k (by omega)]; exact h2 k hk
  · intro k j hk e
    rw [he k (by omega)] at e
    have := h2 k hk
    rw [he j (by omega)]
    exact h3 k j hk e
  · intro k hk; rw [he k (by omega)]; exact h4 k hk
  · intro k hk hf; rw [he k (by omega)]; exact h5 k hk hf
  · intro k j hk hj e1 e2
    rw [he k (by omega)] at e1 e2
    rw [he j (by omega)] at e2
    exact h6 k j hk hj e1 e2
  · intro k hk; rw [he k (by omega)]; exact h9 k hk
theorem y_AW_new {n n2 f l : Int} {g : Nat → Int32} {i : Nat} {v : Int32} (h : y_AW n f l g) (h0 : 0 ≤ n) (hi : (i : Int) = n) (hn : n2 = n + 1) (hv : v.toInt = -2) : y_AW n2 f l (upd g i v) := by
  obtain ⟨h1, h2, h3, h4, h5, h6, h7, h8, h9⟩ := h
  refine ⟨by omega, ?_, ?_, ?_, ?_, ?_, h7, h8, ?_⟩
  · intro k hk
    by_cases e : k = i
    · subst e; rw [y_upd1]; omega
    · rw [y_upd2 e]; have := h2 k (by omega); omega
  · intro k j hk e1
    by_cases e : k = i
    · subst e; rw [y_upd1] at e1; omega
    · rw [y_upd2 e] at e1
      have := h2 k (by omega)
      rw [y_upd2 (by omega)]
      exact h3 k j (by omega) e1
  · intro k hk; rw [y_upd2 (by omega)]; exact h4 k hk
  · intro k hk hf
    by_cases e : k = i
    · subst e; rw [y_upd1]; omega
    · rw [y_upd2 e]; exact h5 k (by omega) hf
  · intro k j hk hj e1 e2
    by_cases e : k = i
    · subst e; rw [y_upd1] at e1; omega
    · rw [y_upd2 e] at e1 e2
      by_cases e3 : j = i
      · subst e3; rw [y_upd1] at e2; omega
      · rw [y_upd2 e3] at e2; exact h6 k j (by omega) (by omega) e1 e2
  · intro k hk; rw [y_upd2 (by omega)]; exact h9 k hk
theorem y_AW_first {n f l p : Int} {g : Nat → Int32} {i : Nat} {v : Int32} (h : y_AW n f l g) (hi : (i : Int) = p) (hp : p < n) (hg : (g i).toInt = -2) (hl : l = -1) (hv : v.toInt = -1) : y_AW n p p (upd g i v) := by
  obtain ⟨h1, h2, h3, h4, h5, h6, h7, h8, h9⟩ := h
  have hno : ∀ k : Nat, (k : Int) < n → (g k).toInt ≠ i := by
    intro k hk e
    have := h3 k i hk e
    omega
  refine ⟨by omega, ?_, ?_, ?_, ?_, ?_, by omega, by omega, ?_⟩
  · intro k hk
    by_cases e : k = i
    · subst e; rw [y_upd1]; omega
    · rw [y_upd2 e]; exact h2 k hk
  · intro k j hk e1
    by_cases e : k = i
    · subst e; rw [y_upd1] at e1; omega
    · rw [y_upd2 e] at e1
      by_cases e2 : j = i
      · subst e2; exact absurd e1 (hno k hk)
      · rw [y_upd2 e2]; exact h3 k j hk e1
  · intro k hk
    have e : k = i := by omega
    subst e; rw [y_upd1]; omega
  · intro k hk _
    by_cases e : k = i
    · subst e; rw [y_upd1]; omega
    · rw [y_upd2 e, ← hi]; exact hno k hk
  · intro k j hk hj e1 e2
    by_cases e : k = i
    · subst e; rw [y_upd1] at e1; omega
    · rw [y_upd2 e] at e1 e2
      by_cases e3 : j = i
      · subst e3; rw [y_upd1] at e2; omega
      · rw [y_upd2 e3] at e2; exact h6 k j hk hj e1 e2
  · intro k hk
    have e : k = i := by omega
    subst e; rw [y_upd1]; exact hv
theorem y_AW_last {n f l p : Int} {g : Nat → Int32} {i j : Nat} {v w : Int32} (h : y_AW n f l g) (hi : (i : Int) = p) (hp : p < n) (hg : (g i).toInt = -2) (hl : ¬ l = -1) (hj : (j : Int) = l) (hv : v.toInt = -1) (hw : w.toInt = p) : y_AW n f p (upd (upd g i v) j w) := by
  obtain ⟨h1, h2, h3, h4, h5, h6, h7, h8, h9⟩ := h
  have hno : ∀ k : Nat, (k : Int) < n → (g k).toInt ≠ i := by
    intro k hk e
    have := h3 k i hk e
    omega
  have hlj := h9 j (by omega)
  have hij : i ≠ j := by intro e; subst e; omega
  have hf0 : 0 ≤ f := by
    by_cases e : f = -1
    · have := h7 e; omega
    · omega
  have hfi : f ≠ p := by
    intro e
    have := h4 i (by omega)
    omega
  have val : ∀ k : Nat, upd (upd g i v) j w k = if k = j then w else if k = i then v else g k := by
    intro k
    unfold upd
    rfl
  have vj : upd (upd g i v) j w j = w := y_upd1 _ _ _
  have vi : upd (upd g i v) j w i = v := by rw [y_upd2 hij, y_upd1]
  have vo : ∀ k : Nat, k ≠ i → k ≠ j → upd (upd g i v) j w k = g k := by intro k a b; rw [y_upd2 b, y_upd2 a]
  refine ⟨by omega, ?_, ?_, ?_, ?_, ?_, by omega, by omega, ?_⟩
  · intro k hk
    by_cases e1 : k = j
    · subst e1; rw [vj]; omega
    · by_cases e2 : k = i
      · subst e2; rw [vi]; omega
      · rw [vo k e2 e1]; exact h2 k hk
  · intro k t hk e
    by_cases e1 : k = j
    · subst e1
      rw [vj] at e
      have : t = i := by omega
      subst this; rw [vi]; omega
    · by_cases e2 : k = i
      · subst e2; rw [vi] at e; omega
      · rw [vo k e2 e1] at e
        have ht : t ≠ i := by intro z; subst z; exact absurd e (hno k hk)
        by_cases e3 : t = j
        · subst e3; rw [vj]; omega
        · rw [vo t ht e3]; exact h3 k t hk e
  · intro k hk
    have ki : k ≠ i := by omega
    by_cases e1 : k = j
    · subst e1; rw [vj]; omega
    · rw [vo k ki e1]; exact h4 k hk
  · intro k hk _
    by_cases e1 : k = j
    · subst e1; rw [vj]; omega
    · by_cases e2 : k = i
      · subst e2; rw [vi]; omega
      · rw [vo k e2 e1]; exact h5 k hk hf0
  · intro k t hk ht e1 e2
    by_cases a1 : k = j
    · subst a1
      rw [vj] at e1 e2
      by_cases b1 : t = k
      · exact b1.symm
      · by_cases b2 : t = i
        · subst b2; rw [vi] at e2; omega
        · rw [vo t b2 b1] at e2; exact absurd (by omega) (hno t ht)
    · by_cases a2 : k = i
      · subst a2; rw [vi] at e1; omega
      · rw [vo k a2 a1] at e1 e2
        by_cases b1 : t = j
        · subst b1; rw [vj] at e2; exact absurd (by omega) (hno k hk)
        · by_cases b2 : t = i
          · subst b2; rw [vi] at e2; omega
          · rw [vo t b2 b1] at e2; exact h6 k t hk ht e1 e2
  · intro k hk
    have e : k = i := by omega
    subst e; rw [vi]; exact hv
theorem y_AW_take {n f l f2 l2 : Int} {g : Nat → Int32} {i : Nat} {v : Int32} (h : y_AW n f l g) (h0 : 0 ≤ f) (hi : (i : Int) = f) (hf2 : f2 = (g i).toInt) (hl2 : f2 = -1 ∧ l2 = -1 ∨ ¬ f2 = -1 ∧ l2 = l) (hv : v.toInt = -2) : y_AW n f2 l2 (upd g i v) := by
  obtain ⟨h1, h2, h3, h4, h5, h6, h7, h8, h9⟩ := h
  have hb := h2 i (by omega)
  have hg := h4 i hi
  have hl0 := h8 h0
  refine ⟨by omega, ?_, ?_, ?_, ?_, ?_, by omega, by omega, ?_⟩
  · intro k hk
    by_cases e : k = i
    · subst e; rw [y_upd1]; omega
    · rw [y_upd2 e]; exact h2 k hk
  · intro k j hk e1
    by_cases e : k = i
    · subst e; rw [y_upd1] at e1; omega
    · rw [y_upd2 e] at e1
      have hj : j ≠ i := by intro z; subst z; exact h5 k hk h0 (by omega)
      rw [y_upd2 hj]; exact h3 k j hk e1
  · intro k hk
    have hki : k ≠ i := by intro z; subst z; exact h5 k (by omega) h0 (by omega)
    rw [y_upd2 hki]; exact h3 i k (by omega) (by omega)
  · intro k hk hf
    by_cases e : k = i
    · subst e; rw [y_upd1]; omega
    · rw [y_upd2 e]
      intro e2
      exact e (h6 k i hk (by omega) (by omega) (by omega))
  · intro k j hk hj e1 e2
    by_cases e : k = i
    · subst e; rw [y_upd1] at e1; omega
    · rw [y_upd2 e] at e1 e2
      by_cases e3 : j = i
      · subst e3; rw [y_upd1] at e2; omega
      · rw [y_upd2 e3] at e2; exact h6 k j hk hj e1 e2
  · intro k hk
    have hkl : (k : Int) = l := by omega
    have hk1 := h9 k hkl
    have hki : k ≠ i := by intro z; subst z; omega
    rw [y_upd2 hki]; exact hk1
/-! the FRAMES' words -/
def y_Wd (n : Int) (C m : Nat) : Prop := n * C ≤ m
theorem y_Wd.in {n : Int} {C m s : Nat} (h : y_Wd n C m) (hs : (s : Int) < n) : s * C + C ≤ m := by
  unfold y_Wd at h
  have h1 : ((s : Int) + 1) * C ≤ n * C := Int.mul_le_mul_of_nonneg_right (by omega) (by omega)
  have h2 : (((s + 1) * C : Nat) : Int) ≤ m := by push_cast; omega
  have h3 : (s + 1) * C = s * C + C := Nat.succ_mul _ _
  omega
theorem y_Wd.mono {n n2 : Int} {C m m2 : Nat} (h : y_Wd n C m) (h0 : n2 ≤ n) (hm : m ≤ m2) : y_Wd n2 C m2 := by
  unfold y_Wd at *
  have : n2 * C ≤ n * C := Int.mul_le_mul_of_nonneg_right h0 (by omega)
  omega
theorem y_WdI {n : Int} {C m : Nat} {a b : Int32} (ha : a.toInt = n) (hb : b.toInt = C) (hm : (a * b).toInt = a.toInt * b.toInt) (h : (a * b).toInt ≤ m) : y_Wd n C m := by
  rw [hm, ha, hb] at h
  exact h
theorem y_Wd0 {n : Int} {C m : Nat} (h : n = 0) : y_Wd n C m := by
  subst h
  unfold y_Wd
  omega
theorem y_Fit.wd {n : Int} {C : Nat} (h : y_Fit n C) (h0 : 0 ≤ n) : n * C ≤ 20000 := by
  unfold y_Fit at h
  have : n * C ≤ n * (C + 1) := Int.mul_le_mul_of_nonneg_left (by omega) h0
  omega
theorem y_atC {s C : Nat} {a b : Int32} (ha : a.toInt = s) (hb : b.toInt = C) (hm : (a * b).toInt = a.toInt * b.toInt) : (a * b).toNatClampNeg = s * C := by
  rw [ha, hb] at hm
  have h0 : 0 ≤ (a * b).toInt := by rw [hm]; exact Int.mul_nonneg (by omega) (by omega)
  have e := y_cl h0
  have : (((a * b).toNatClampNeg : Nat) : Int) = ((s * C : Nat) : Int) := by rw [e, hm]; push_cast; rfl
  omega
theorem y_RIs2 {n n2 lo hi : Int} {g : Nat → Int32} {i : Nat} {v : Int32} (h : y_RI n lo hi g) (hn : n2 = n + 1) (hi1 : (i : Int) = n) (h1 : lo ≤ v.toInt) (h2 : v.toInt ≤ hi) : y_RI n2 lo hi (upd g i v) := y_RIu h (Int.le_refl _) (Int.le_refl _) h1 h2 (Or.inr ⟨hn, hi1⟩)
theorem y_nz {g : Nat → Int32} {k : Nat} (h0 : (g 0).toInt = 0) (h : 0 < (g k).toInt) : ¬ k = 0 := by
  intro e
  subst e
  omega
