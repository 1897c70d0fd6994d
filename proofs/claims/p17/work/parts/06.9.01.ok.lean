/-! the FRAMES, the queue, the CONTEXTS -/
/-- cells below n lie between lo and hi -/
def y_RI (n lo hi : Int) (g : Nat → Int32) : Prop := ∀ k : Nat, (k : Int) < n → lo ≤ (g k).toInt ∧ (g k).toInt ≤ hi
theorem y_RI.at {n lo hi : Int} {g : Nat → Int32} (h : y_RI n lo hi g) (k : Nat) (hk : (k : Int) < n) : lo ≤ (g k).toInt ∧ (g k).toInt ≤ hi := h k hk
theorem y_RIm {n lo hi n2 lo2 hi2 : Int} {g : Nat → Int32} (h : y_RI n lo hi g) (h0 : n2 ≤ n) (h1 : lo2 ≤ lo) (h2 : hi ≤ hi2) : y_RI n2 lo2 hi2 g := by
  intro k hk
  have := h k (by omega)
  omega
theorem y_RIu {n lo hi n2 lo2 hi2 : Int} {g : Nat → Int32} {i : Nat} {v : Int32} (h : y_RI n lo hi g) (h1 : lo2 ≤ lo) (h2 : hi ≤ hi2) (h3 : lo2 ≤ v.toInt) (h4 : v.toInt ≤ hi2) (h5 : n2 ≤ n ∨ n2 = n + 1 ∧ (i : Int) = n) : y_RI n2 lo2 hi2 (upd g i v) := by
  intro k hk
  unfold upd
  by_cases e : k = i
  · rw [if_pos e]; exact ⟨h3, h4⟩
  · rw [if_neg e]
    have := h k (by omega)
    omega
theorem y_RIs {n n2 lo hi : Int} {g : Nat → Int32} {i : Nat} (h : y_RI n lo hi g) (hn : n2 = n + 1) (hi1 : (i : Int) = n) (h1 : lo ≤ (g i).toInt) (h2 : (g i).toInt ≤ hi) : y_RI n2 lo hi g := by
  intro k hk
  by_cases e : k = i
  · subst e; exact ⟨h1, h2⟩
  · exact h k (by omega)
theorem y_RI0 {n lo hi : Int} {g : Nat → Int32} (h : n ≤ 0) : y_RI n lo hi g := fun k hk => by omega
/-- each cell below n is less than its place, or none -/
def y_DI (n : Int) (g : Nat → Int32) : Prop := ∀ k : Nat, (k : Int) < n → -1 ≤ (g k).toInt ∧ (g k).toInt < k
theorem y_DI.at {n : Int} {g : Nat → Int32} (h : y_DI n g) (k : Nat) (hk : (k : Int) < n) : -1 ≤ (g k).toInt ∧ (g k).toInt < k := h k hk
theorem y_DIu {n n2 : Int} {g : Nat → Int32} {i : Nat} {v : Int32} (h : y_DI n g) (h1 : -1 ≤ v.toInt) (h2 : v.toInt < i) (h5 : n2 ≤ n ∨ n2 = n + 1 ∧ (i : Int) = n) : y_DI n2 (upd g i v) := by
  intro k hk
  unfold upd
  by_cases e : k = i
  · rw [if_pos e]; omega
  · rw [if_neg e]; exact h k (by omega)
/-- each cell below n but the first is less than its place -/
def y_BI (n : Int) (g : Nat → Int32) : Prop := ∀ k : Nat, 0 < k → (k : Int) < n → 0 ≤ (g k).toInt ∧ (g k).toInt < k
theorem y_BI.at {n : Int} {g : Nat → Int32} (h : y_BI n g) (k : Nat) (hk : 0 < k ∧ (k : Int) < n) : 0 ≤ (g k).toInt ∧ (g k).toInt < k := h k hk.1 hk.2
theorem y_BIu {n n2 : Int} {g : Nat → Int32} {i : Nat} {v : Int32} (h : y_BI n g) (h1 : 0 ≤ v.toInt) (h2 : v.toInt < i) (h5 : n2 ≤ n ∨ n2 = n + 1 ∧ (i : Int) = n) : y_BI n2 (upd g i v) := by
  intro k h0 hk
  unfold upd
  by_cases e : k = i
  · rw [if_pos e]; omega
  · rw [if_neg e]; exact h k h0 (by omega)
/-- cells below n but the first lie between lo and hi -/
def y_R1 (n lo hi : Int) (g : Nat → Int32) : Prop := ∀ k : Nat, 0 < k → (k : Int) < n → lo ≤ (g k).toInt ∧ (g k).toInt ≤ hi
theorem y_R1.at {n lo hi : Int} {g : Nat → Int32} (h : y_R1 n lo hi g) (k : Nat) (hk : 0 < k ∧ (k : Int) < n) : lo ≤ (g k).toInt ∧ (g k).toInt ≤ hi := h k hk.1 hk.2
theorem y_R1u {n lo hi n2 : Int} {g : Nat → Int32} {i : Nat} {v : Int32} (h : y_R1 n lo hi g) (h3 : lo ≤ v.toInt) (h4 : v.toInt ≤ hi) (h5 : n2 ≤ n ∨ n2 = n + 1 ∧ (i : Int) = n) : y_R1 n2 lo hi (upd g i v) := by
  intro k h0 hk
  unfold upd
  by_cases e : k = i
  · rw [if_pos e]; exact ⟨h3, h4⟩
  · rw [if_neg e]; exact h k h0 (by omega)
/-- how deep: the first 0, the others 1 to 16 -/
def y_NI (n : Int) (g : Nat → Int32) : Prop := ∀ k : Nat, (k : Int) < n → 0 ≤ (g k).toInt ∧ (g k).toInt ≤ 16 ∧ (k = 0 → (g k).toInt = 0) ∧ (0 < k → 1 ≤ (g k).toInt)
theorem y_NI.at {n : Int} {g : Nat → Int32} (h : y_NI n g) (k : Nat) (hk : (k : Int) < n) : 0 ≤ (g k).toInt ∧ (g k).toInt ≤ 16 ∧ (k = 0 → (g k).toInt = 0) ∧ (0 < k → 1 ≤ (g k).toInt) := h k hk
theorem y_NIm {n n2 : Int} {g : Nat → Int32} (h : y_NI n g) (h5 : n2 ≤ n) : y_NI n2 g := fun k hk => h k (by omega)
theorem y_NIu {n n2 : Int} {g : Nat → Int32} {i : Nat} {v : Int32} (h : y_NI n g) (h1 : 1 ≤ v.toInt) (h2 : v.toInt ≤ 16) (h0 : 0 < i) (h5 : n2 ≤ n ∨ n2 = n + 1 ∧ (i : Int) = n) : y_NI n2 (upd g i v) := by
  intro k hk
  unfold upd
  by_cases e : k = i
  · rw [if_pos e]; omega
  · rw [if_neg e]; exact h k (by omega)
/-- how many wait -/
def y_Ct : Nat → (Nat → Int32) → Nat
  | 0, _ => 0
  | n + 1, g => y_Ct n g + (if (g n).toInt = 0 then 0 else 1)
theorem y_Ct_le (n : Nat) (g : Nat → Int32) : y_Ct n g ≤ n := by
  induction n with
  | zero => exact Nat.le_refl 0
  | succ n ih => unfold y_Ct; split <;> omega
theorem y_Ct_out {g : Nat → Int32} {i : Nat} {v : Int32} : ∀ {n : Nat}, n ≤ i → y_Ct n (upd g i v) = y_Ct n g := by
  intro n
  induction n with
  | zero => intro _; rfl
  | succ n ih =>
    intro h
    unfold y_Ct
    rw [ih (by omega), y_upd2 (by omega : n ≠ i)]
theorem y_Ct_upd {g : Nat → Int32} {i : Nat} {v : Int32} : ∀ {n : Nat}, i < n → y_Ct n (upd g i v) + (if (g i).toInt = 0 then 0 else 1) = y_Ct n g + (if v.toInt = 0 then 0 else 1) := by
  intro n
  induction n with
  | zero => intro h; omega
  | succ n ih =>
    intro h
    unfold y_Ct
    by_cases e : i = n
    · subst e
      rw [y_Ct_out (Nat.le_refl _), y_upd1]
      omega
    · rw [y_upd2 (by omega : n ≠ i)]
      have := ih (by omega)
      omega
theorem y_Ct_set {g : Nat → Int32} {i n : Nat} {v : Int32} (hi : i < n) (h0 : (g i).toInt = 0) (hv : ¬ v.toInt = 0) : y_Ct n (upd g i v) = y_Ct n g + 1 := by
  have := y_Ct_upd (g := g) (v := v) hi
  rw [if_pos h0, if_neg hv] at this
  omega
theorem y_Ct_clr {g : Nat → Int32} {i n : Nat} {v : Int32} (hi : i < n) : y_Ct n g ≤ y_Ct n (upd g i v) + 1 := by
  have := y_Ct_upd (g := g) (v := v) hi
  split at this <;> split at this <;> omega
theorem y_Ct_new {g : Nat → Int32} {i n : Nat} {v : Int32} (hi : i = n) (hv : v.toInt = 0) : y_Ct (n + 1) (upd g i v) = y_Ct n g := by
  subst hi
  have e : y_Ct (i + 1) (upd g i v) = y_Ct i (upd g i v) + (if (upd g i v i).toInt = 0 then 0 else 1) := rfl
  rw [e, y_Ct_out (Nat.le_refl _), y_upd1, if_pos hv, Nat.add_zero]
/-- the queue: what waits are FRAMES -/
def y_Q (f w n : Int) (g : Nat → Int32) : Prop := ∀ j : Nat, (j : Int) < w → 0 ≤ (g ((f.toNat + j) % 20010)).toInt ∧ (g ((f.toNat + j) % 20010)).toInt < n
theorem y_Q_add {f w w2 n n2 : Int} {i : Nat} {g : Nat → Int32} {v : Int32} (h : y_Q f w n g) (hf : 0 ≤ f) (hw : 0 ≤ w) (hw2 : w2 = w + 1) (hn2 : n ≤ n2) (hi : (i : Int) = (f + w) % 20010) (h1 : 0 ≤ v.toInt) (h2 : v.toInt < n2) : y_Q f w2 n2 (upd g i v) := by
  intro j hj
  unfold upd
  by_cases e : (f.toNat + j) % 20010 = i
  · rw [if_pos e]; exact ⟨h1, h2⟩
  · rw [if_neg e]
    have := h j (by
      by_cases e2 : (j : Int) = w
      · exfalso; apply e; omega
      · omega)
    omega
theorem y_Q_pop {f w n w2 : Int} {g : Nat → Int32} (h : y_Q f w n g) (hf : 0 ≤ f) {f2 : Int} (hf2 : f2 = (f + 1) % 20010) (hw2 : w2 = w - 1) : y_Q f2 w2 n g := by
  intro j hj
  have := h (j + 1) (by omega)
  have e : (f.toNat + (j + 1)) % 20010 = (f2.toNat + j) % 20010 := by omega
  rw [e] at this
  exact this
theorem y_Q.first {f w n : Int} {i : Nat} {g : Nat → Int32} (h : y_Q f w n g) (hw : 0 < w) (hf : 0 ≤ f) (hf2 : f < 20010) (hi : (i : Int) = f) : 0 ≤ (g i).toInt ∧ (g i).toInt < n := by
  have := h 0 (by omega)
  have e : (f.toNat + 0) % 20010 = i := by omega
  rw [e] at this
  exact this
theorem y_Q.mono {f w n n2 : Int} {g : Nat → Int32} (h : y_Q f w n g) (hn : n ≤ n2) : y_Q f w n2 g := by
  intro j hj
  have := h j hj
  omega
/-- how high all stands together -/
def y_M : Nat → (Nat → Int32) → Int
  | 0, _ => 0
  | n + 1, g => y_M n g + y_rk (g n)
theorem y_M_out {g : Nat → Int32} {i : Nat} {v : Int32} : ∀ {n : Nat}, n ≤ i → y_M n (upd g i v) = y_M n g := by
  intro n
  induction n with
  | zero => intro _; rfl
  | succ n ih =>
    intro h
    unfold y_M
    rw [ih (by omega), y_upd2 (by omega : n ≠ i)]
theorem y_M_upd {g : Nat → Int32} {i : Nat} {v : Int32} : ∀ {n : Nat}, i < n → y_M n (upd g i v) = y_M n g - y_rk (g i) + y_rk v := by
  intro n
  induction n with
  | zero => intro h; omega
  | succ n ih =>
    intro h
    unfold y_M
    by_cases e : i = n
    · subst e
      rw [y_M_out (Nat.le_refl _), y_upd1]
      omega
    · rw [y_upd2 (by omega : n ≠ i)]
      have := ih (by omega)
      omega
theorem y_rk_0 : y_rk 0 = 0 := rfl
theorem y_V.rk {v : Int32} (h : y_V v) : 0 ≤ y_rk v ∧ (¬ v.toInt = 0 → 0 < y_rk v) := by
  have := h.b
  unfold y_rk
  split <;> omega
theorem y_rk_of {v w : Int32} (h : v.toInt = w.toInt) : y_rk v = y_rk w := by unfold y_rk; rw [h]
theorem y_M_pos {g : Nat → Int32} : ∀ {n : Nat}, y_AV n g → 0 ≤ y_M n g := by
  intro n
  induction n with
  | zero => intro _; exact Int.le_refl 0
  | succ n ih =>
    intro h
    unfold y_M
    have h1 := ih (fun k hk => h k (by omega))
    have h2 := (h n (by omega)).rk
    omega
/-- the height that each FRAME has -/
def y_H (C : Nat) (n m : Int) (g : Nat → Int32) : Prop := ∀ s : Nat, (s : Int) < n → 0 ≤ (g (s * (C + 2) + C)).toInt ∧ (g (s * (C + 2) + C)).toInt ≤ m
theorem y_H.at {C : Nat} {n m : Int} {g : Nat → Int32} (h : y_H C n m g) {s i : Nat} (hs : (s : Int) < n) (hi : i = s * (C + 2) + C) : 0 ≤ (g i).toInt ∧ (g i).toInt ≤ m := by
  subst hi
  exact h s hs
theorem y_cell {C s t a b : Nat} (ha : a < C) (hb : b < C) (h : s * C + a = t * C + b) : a = b := by
  have h1 : (s * C + a) % C = a := by rw [Nat.mul_comm, Nat.mul_add_mod, Nat.mod_eq_of_lt ha]
  have h2 : (t * C + b) % C = b := by rw [Nat.mul_comm, Nat.mul_add_mod, Nat.mod_eq_of_lt hb]
  rw [← h1, h, h2]
theorem y_H_upd {C at_ s i : Nat} {n m : Int} {g : Nat → Int32} {v : Int32} (h : y_H C n m g) (hat : at_ = s * (C + 2)) (h1 : at_ ≤ i) (h2 : i < at_ + C ∨ i = at_ + C + 1) : y_H C n m (upd g i v) := by
  intro t ht
  have e : t * (C + 2) + C ≠ i := by
    intro e
    have := @y_cell (C + 2) t s C (i - at_) (by omega) (by omega) (by omega)
    omega
  rw [y_upd2 e]
  exact h t ht
theorem y_H_new {C N i : Nat} {n n2 m : Int} {g g2 : Nat → Int32} (h : y_H C n m g) (hN : (N : Int) = n) (he : y_Eq (N * (C + 2)) g g2) (hi : i = N * (C + 2) + C) (h1 : 0 ≤ (g2 i).toInt) (h2 : (g2 i).toInt ≤ m) (hn2 : n2 = n + 1) : y_H C n2 m g2 := by
  intro t ht
  by_cases e : t = N
  · subst e
    rw [← hi]
    exact ⟨h1, h2⟩
  · have h3 : (t + 1) * (C + 2) ≤ N * (C + 2) := Nat.mul_le_mul_right _ (by omega)
    have h4 : (t + 1) * (C + 2) = t * (C + 2) + (C + 2) := Nat.succ_mul _ _
    rw [he _ (by omega)]
    exact h t (by omega)
/-- so many FRAMES have room -/
def y_Fit (n : Int) (C : Nat) : Prop := n * (C + 1) ≤ 20000
theorem y_Fit.le {n : Int} {C : Nat} (h : y_Fit n C) (h0 : 0 ≤ n) : n ≤ 20000 := by
  unfold y_Fit at h
  have : n * 1 ≤ n * (C + 1) := Int.mul_le_mul_of_nonneg_left (by omega) h0
  omega
theorem y_Fit.in {C s : Nat} {n : Int} (h : y_Fit n C) (hs : (s : Int) < n) (hC : C ≤ 400) : s * (C + 2) + C + 2 ≤ 40000 := by
  have h0 := h.le (by omega)
  unfold y_Fit at h
  have h1 : ((s : Int) + 1) * (C + 1) ≤ n * (C + 1) := Int.mul_le_mul_of_nonneg_right (by omega) (by omega)
  have h1' : (((s + 1) * (C + 1) : Nat) : Int) ≤ 20000 := by push_cast; omega
  have h2 : (s + 1) * (C + 2) = (s + 1) * (C + 1) + (s + 1) := Nat.mul_succ _ _
  have h3 : (s + 1) * (C + 2) = s * (C + 2) + (C + 2) := Nat.succ_mul _ _
  omega
theorem y_Fit.nx {N C : Nat} {n : Int} (h : y_Fit n C) (hN : (N : Int) = n) (hC : C ≤ 400) : N * (C + 2) ≤ 40000 := by
  have h0 := h.le (by omega)
  unfold y_Fit at h
  subst hN
  have h1 : ((N * (C + 1) : Nat) : Int) ≤ 20000 := by push_cast; exact h
  have h2 : N * (C + 2) = N * (C + 1) + N := Nat.mul_succ _ _
  omega
theorem y_FitI {n : Int} {C : Nat} {a b : Int32} (ha : a.toInt = n) (hb : b.toInt = C + 1) (hm : (a * b).toInt = a.toInt * b.toInt) (h : (a * b).toInt ≤ 20000) : y_Fit n C := by
  rw [hm, ha, hb] at h
  exact h
theorem y_Fit.mono {n n2 : Int} {C : Nat} (h : y_Fit n C) (h0 : n2 ≤ n) : y_Fit n2 C := by
  unfold y_Fit at *
  have : n2 * (C + 1) ≤ n * (C + 1) := Int.mul_le_mul_of_nonneg_right h0 (by omega)
  omega
theorem y_mulB {a b : Int32} {A B : Int} (ha : 0 ≤ a.toInt ∧ a.toInt ≤ A) (hb : 0 ≤ b.toInt ∧ b.toInt ≤ B) (h : A * B < 2147483648) : (a * b).toInt = a.toInt * b.toInt ∧ 0 ≤ (a * b).toInt ∧ (a * b).toInt ≤ A * B := by
  have h0 : 0 ≤ a.toInt * b.toInt := Int.mul_nonneg ha.1 hb.1
  have h1 : a.toInt * b.toInt ≤ A * B := Int.mul_le_mul ha.2 hb.2 hb.1 (by omega)
  have := y_mul (a := a) (b := b) (by omega) (by omega)
  omega
theorem y_atI {s C : Nat} {a b : Int32} (ha : a.toInt = s) (hb : b.toInt = C + 2) (hm : (a * b).toInt = a.toInt * b.toInt) : (a * b).toNatClampNeg = s * (C + 2) := by
  rw [ha, hb] at hm
  have h0 : 0 ≤ (a * b).toInt := by rw [hm]; exact Int.mul_nonneg (by omega) (by omega)
  have e := y_cl h0
  have : (((a * b).toNatClampNeg : Nat) : Int) = ((s * (C + 2) : Nat) : Int) := by rw [e, hm]; push_cast; rfl
  omega
/-- nearer to the end: more FRAMES, or less height, or all as it was -/
def y_Le (n0 M0 w0 n M w : Int) : Prop := n0 < n ∨ n = n0 ∧ (M < M0 ∨ M ≤ M0 ∧ w = w0)
theorem y_Le.rf (n M w : Int) : y_Le n M w n M w := Or.inr ⟨rfl, Or.inr ⟨Int.le_refl _, rfl⟩⟩
theorem y_Le.tr {n0 M0 w0 n M w n2 M2 w2 : Int} (h : y_Le n0 M0 w0 n M w) (h2 : y_Le n M w n2 M2 w2) : y_Le n0 M0 w0 n2 M2 w2 := by
  unfold y_Le at *
  omega
