/-! LAYER 2: a function comes to an answer of which Q holds -/
def y_Ok {α : Type} (o : Option α) (Q : α → Prop) : Prop := ∃ r, o = some r ∧ Q r
theorem y_some {α : Type} {r : α} {Q : α → Prop} (h : Q r) : y_Ok (some r) Q := ⟨r, rfl, h⟩
theorem y_gd {α : Type} {c : Prop} [Decidable c] {t : Option α} {Q : α → Prop} (hc : c) (h : y_Ok t Q) : y_Ok (if c then t else none) Q := by rw [if_pos hc]; exact h
theorem y_if {α : Type} {c : Prop} [Decidable c] {a b : Option α} {Q : α → Prop} (ha : c → y_Ok a Q) (hb : ¬ c → y_Ok b Q) : y_Ok (if c then a else b) Q := by
  by_cases h : c
  · rw [if_pos h]; exact ha h
  · rw [if_neg h]; exact hb h
theorem y_bi {α β : Type} {o : Option α} {k : α → Option β} {P : α → Prop} {Q : β → Prop} (h : y_Ok o P) (hk : ∀ r, P r → y_Ok (k r) Q) : y_Ok (o >>= k) Q := by
  obtain ⟨r, rfl, hr⟩ := h
  exact hk r hr
theorem y_Ok.mono {α : Type} {o : Option α} {P Q : α → Prop} (h : y_Ok o P) (hk : ∀ r, P r → Q r) : y_Ok o Q := by
  obtain ⟨r, e, hr⟩ := h
  exact ⟨r, e, hk r hr⟩
theorem y_z : (0 : Int32).toInt = 0 := by decide
theorem y_gdI {i : Int32} {n : Nat} (h0 : 0 ≤ i.toInt) (h1 : i.toInt < n) : x_gd i n = true := by
  unfold x_gd
  simp only [Bool.not_eq_true', Bool.or_eq_false_iff, decide_eq_false_iff_not, Int32.lt_iff_toInt_lt, y_z]
  unfold Int32.toNatClampNeg
  constructor <;> omega
theorem y_cl {k : Int32} (h : 0 ≤ k.toInt) : (k.toNatClampNeg : Int) = k.toInt := by unfold Int32.toNatClampNeg; omega
theorem y_add {a b : Int32} (h1 : -2147483648 ≤ a.toInt + b.toInt) (h2 : a.toInt + b.toInt < 2147483648) : (a + b).toInt = a.toInt + b.toInt := by
  rw [Int32.toInt_add]
  exact Int.bmod_eq_of_le (by omega) (by omega)
theorem y_sub {a b : Int32} (h1 : -2147483648 ≤ a.toInt - b.toInt) (h2 : a.toInt - b.toInt < 2147483648) : (a - b).toInt = a.toInt - b.toInt := by
  rw [Int32.toInt_sub]
  exact Int.bmod_eq_of_le (by omega) (by omega)
theorem y_mul {a b : Int32} (h1 : -2147483648 ≤ a.toInt * b.toInt) (h2 : a.toInt * b.toInt < 2147483648) : (a * b).toInt = a.toInt * b.toInt := by
  rw [Int32.toInt_mul]
  exact Int.bmod_eq_of_le (by omega) (by omega)
theorem y_sar (x c : Int32) (n : Nat) (hc : ((c &&& 31).toBitVec.smod 32).toNat = n) : (x >>> (c &&& 31)).toInt = x.toInt / (2 ^ n : Nat) := by
  rw [← Int32.toInt_toBitVec, Int32.toBitVec_shiftRight]
  show (x.toBitVec.sshiftRight _).toInt = _
  rw [hc, BitVec.toInt_sshiftRight, Int32.toInt_toBitVec, Int.shiftRight_eq_div_pow]
theorem y_sar16 (x : Int32) : (x >>> (16 &&& 31)).toInt = x.toInt / 65536 := y_sar x 16 16 (by decide)
theorem y_sar4 (x : Int32) : (x >>> (4 &&& 31)).toInt = x.toInt / 16 := y_sar x 4 4 (by decide)
theorem y_sar20 (x : Int32) : (x >>> (20 &&& 31)).toInt = x.toInt / 1048576 := y_sar x 20 20 (by decide)
theorem y_and (x m : Int32) (k : Nat) (hk : k ≤ 30) (hm : m.toBitVec.toNat = 2 ^ k - 1) : (x &&& m).toInt = x.toInt % (2 ^ k : Nat) := by
  rw [← Int32.toInt_toBitVec, Int32.toBitVec_and, BitVec.toInt_and, hm, Nat.and_two_pow_sub_one_eq_mod, ← Int32.toInt_toBitVec, BitVec.toInt_eq_toNat_bmod]
  have hp : 2 ^ k ≤ 2 ^ 30 := Nat.pow_le_pow_right (by omega) hk
  have hlt : x.toBitVec.toNat % 2 ^ k < 2 ^ k := Nat.mod_lt _ (Nat.two_pow_pos k)
  rw [Int.bmod_eq_of_le (by omega) (by omega)]
  have h32 : (2 ^ 32 : Nat) = 2 ^ k * 2 ^ (32 - k) := by rw [← Nat.pow_add]; congr 1; omega
  have hd : ((2 ^ k : Nat) : Int) ∣ ((2 ^ 32 : Nat) : Int) := ⟨((2 ^ (32 - k) : Nat) : Int), by rw [← Int.natCast_mul, ← h32]⟩
  rw [Int.bmod_def]
  have e1 : (x.toBitVec.toNat : Int) % ((2 ^ 32 : Nat) : Int) % ((2 ^ k : Nat) : Int) = (x.toBitVec.toNat : Int) % ((2 ^ k : Nat) : Int) := Int.emod_emod_of_dvd _ hd
  split
  · rw [e1]; exact Int.natCast_emod _ _
  · rw [Int.sub_emod, e1, Int.emod_eq_zero_of_dvd hd, Int.sub_zero, Int.emod_emod_of_dvd _ (Int.dvd_refl _)]; exact Int.natCast_emod _ _
theorem y_and16 (x : Int32) : (x &&& 65535).toInt = x.toInt % 65536 := y_and x 65535 16 (by omega) (by decide)
theorem y_and4 (x : Int32) : (x &&& 15).toInt = x.toInt % 16 := y_and x 15 4 (by omega) (by decide)
theorem y_and10 (x : Int32) : (x &&& 1023).toInt = x.toInt % 1024 := y_and x 1023 10 (by omega) (by decide)
/-- what is above a CLASS: nothing above Object, else a lesser number -/
def y_Up (n : Nat) (g : Nat → Int32) : Prop := n ≤ 200 ∧ ∀ k, k < n → -1 ≤ (g k).toInt ∧ (g k).toInt < k
theorem y_below_L {n : Nat} {g : Nat → Int32} (hU : y_Up n g) (l2 : Int32) : ∀ (m : Nat) (k : Int32), -1 ≤ k.toInt → k.toInt < n → k.toInt < m → y_Ok (f_X9_below_L g l2 (0, k)) (fun r => r = 0 ∨ r = 1) := by
  obtain ⟨hn, hU⟩ := hU
  intro m
  induction m with
  | zero =>
    intro k h1 h2 h3
    rw [f_X9_below_L]
    refine y_gd rfl (y_if (fun c => y_some (Or.inl rfl)) (fun c => ?_))
    rw [Int32.lt_iff_toInt_lt, y_z] at c
    omega
  | succ m ih =>
    intro k h1 h2 h3
    rw [f_X9_below_L]
    refine y_gd rfl (y_if (fun c => y_some (Or.inl rfl)) (fun c => y_if (fun c2 => y_some (Or.inr rfl)) (fun c2 => ?_)))
    rw [Int32.lt_iff_toInt_lt, y_z] at c
    refine y_gd (y_gdI (by omega) (by omega)) ?_
    have hk := y_cl (k := k) (by omega)
    have h := hU k.toNatClampNeg (by omega)
    exact ih _ (by omega) (by omega) (by omega)
theorem y_below {n : Nat} {g : Nat → Int32} (hU : y_Up n g) (k l2 : Int32) (h1 : -1 ≤ k.toInt) (h2 : k.toInt < n) : y_Ok (f_X9_below g k l2) (fun r => r = 0 ∨ r = 1) := by
  unfold f_X9_below
  exact y_below_L hU l2 (n + 1) k h1 h2 (by omega)
