/-! LAYER 2: a function comes to an answer of which Q holds -/
def y_Ok {α : Type} (o : Option α) (Q : α → Prop) : Prop := ∃ r, o = some r ∧ Q r
theorem y_some {α : Type} {r : α} {Q : α → Prop} (h : Q r) : y_Ok (some r) Q := ⟨r, rfl, h⟩
theorem y_gd {α : Type} {c : Prop} [Decidable c] {t : Option α} {Q : α → Prop} (hc : c) (h : y_Ok t Q) : y_Ok (if c then t else none) Q := by rw [if_pos hc]; exact h
theorem y_ip {α : Type} {c : Prop} [Decidable c] {a b : Option α} {Q : α → Prop} (hc : c) (h : y_Ok a Q) : y_Ok (if c then a else b) Q := by rw [if_pos hc]; exact h
theorem y_in {α : Type} {c : Prop} [Decidable c] {a b : Option α} {Q : α → Prop} (hc : ¬ c) (h : y_Ok b Q) : y_Ok (if c then a else b) Q := by rw [if_neg hc]; exact h
theorem y_if {α : Type} {c : Prop} [Decidable c] {a b : Option α} {Q : α → Prop} (ha : c → y_Ok a Q) (hb : ¬ c → y_Ok b Q) : y_Ok (if c then a else b) Q := by
  by_cases h : c
  · rw [if_pos h]; exact ha h
  · rw [if_neg h]; exact hb h
theorem y_bi {α β : Type} {o : Option α} {k : α → Option β} {P : α → Prop} {Q : β → Prop} (h : y_Ok o P) (hk : ∀ r, P r → y_Ok (k r) Q) : y_Ok (o >>= k) Q := by
  obtain ⟨r, rfl, hr⟩ := h
  exact hk r hr
theorem y_Ok.mono {α : Type} {o : Option α} {P Q : α → Prop} (h : y_Ok o P) (hk : ∀ r, P r → Q r) : y_Ok o Q := by
  obtain ⟨r, e, hr⟩ := h
  exact ⟨r, e, hk r hr⟩
theorem y_z : (0 : Int32).toInt = 0 := by decide
theorem y_gdI {i : Int32} {n : Nat} (h0 : 0 ≤ i.toInt) (h1 : i.toInt < n) : x_gd i n = true := by
  unfold x_gd
  simp only [Bool.not_eq_true', Bool.or_eq_false_iff, decide_eq_false_iff_not, Int32.lt_iff_toInt_lt, y_z]
  unfold Int32.toNatClampNeg
  constructor <;> omega
theorem y_cl {k : Int32} (h : 0 ≤ k.toInt) : (k.toNatClampNeg : Int) = k.toInt := by unfold Int32.toNatClampNeg; omega
theorem y_01 {v : Int32} (h : 0 ≤ v.toInt ∧ v.toInt ≤ 1) : x_01 v = true := by
  unfold x_01
  by_cases h0 : v.toInt = 0
  · have : v = 0 := Int32.toInt_inj.mp (by rw [h0]; rfl)
    subst this; rfl
  · have : v = 1 := Int32.toInt_inj.mp (by rw [show v.toInt = 1 by omega]; rfl)
    subst this; rfl
theorem y_cgI {sp dp n : Int32} {n0 n1 : Nat} (h1 : 0 ≤ sp.toInt) (h2 : 0 ≤ dp.toInt) (h3 : 0 ≤ n.toInt) (h4 : sp.toInt + n.toInt ≤ n0) (h5 : dp.toInt + n.toInt ≤ n1) : x_cg sp dp n n0 n1 = true := by
  have a1 := y_cl h1
  have a2 := y_cl h2
  have a3 := y_cl h3
  unfold x_cg
  simp only [Bool.and_eq_true, Bool.not_eq_true', Bool.or_eq_false_iff, decide_eq_false_iff_not, decide_eq_true_eq, Int32.lt_iff_toInt_lt, y_z]
  refine ⟨⟨⟨⟨?_, ?_⟩, ?_⟩, ?_⟩, ?_⟩ <;> omega
theorem y_ngI {n : Nat} {k : Int32} (h1 : 0 ≤ k.toInt) (h2 : n < k.toInt) (h3 : k.toInt ≤ 100000000) : x_ng n k = true := by
  have a1 := y_cl h1
  unfold x_ng
  simp only [Bool.and_eq_true, Bool.not_eq_true', decide_eq_false_iff_not, decide_eq_true_eq, Int32.lt_iff_toInt_lt, y_z]
  refine ⟨⟨?_, ?_⟩, ?_⟩ <;> omega
theorem y_ng0I {k : Int32} (h1 : 0 ≤ k.toInt) (h3 : k.toInt ≤ 100000000) : x_ng0 k = true := by
  have a1 := y_cl h1
  unfold x_ng0
  simp only [Bool.and_eq_true, Bool.not_eq_true', decide_eq_false_iff_not, decide_eq_true_eq, Int32.lt_iff_toInt_lt, y_z]
  refine ⟨?_, ?_⟩ <;> omega
theorem y_add {a b : Int32} (h1 : -2147483648 ≤ a.toInt + b.toInt) (h2 : a.toInt + b.toInt < 2147483648) : (a + b).toInt = a.toInt + b.toInt := by
  rw [Int32.toInt_add]
  exact Int.bmod_eq_of_le (by omega) (by omega)
theorem y_sub {a b : Int32} (h1 : -2147483648 ≤ a.toInt - b.toInt) (h2 : a.toInt - b.toInt < 2147483648) : (a - b).toInt = a.toInt - b.toInt := by
  rw [Int32.toInt_sub]
  exact Int.bmod_eq_of_le (by omega) (by omega)
theorem y_mul {a b : Int32} (h1 : -2147483648 ≤ a.toInt * b.toInt) (h2 : a.toInt * b.toInt < 2147483648) : (a * b).toInt = a.toInt * b.toInt := by
  rw [Int32.toInt_mul]
  exact Int.bmod_eq_of_le (by omega) (by omega)
theorem y_addL {a c : Int32} {n : Int} (hc : c.toInt = n) (h1 : -2147483648 ≤ a.toInt + n) (h2 : a.toInt + n < 2147483648) : (a + c).toInt = a.toInt + n := by
  subst hc
  exact y_add h1 h2
theorem y_subL {a c : Int32} {n : Int} (hc : c.toInt = n) (h1 : -2147483648 ≤ a.toInt - n) (h2 : a.toInt - n < 2147483648) : (a - c).toInt = a.toInt - n := by
  subst hc
  exact y_sub h1 h2
theorem y_dec {a : Int32} (h1 : -2147483648 ≤ a.toInt - 1) : ∃ d : Int32, a + (-1) = d ∧ d.toInt = a.toInt - 1 := by
  have h2 := a.toInt_lt
  have e : (-1 : Int32).toInt = -1 := rfl
  refine ⟨_, rfl, ?_⟩
  rw [@y_addL a (-1) (-1) rfl (by omega) (by omega)]
  omega
theorem y_mulL {c b : Int32} {n : Int} (hc : c.toInt = n) (h1 : -2147483648 ≤ n * b.toInt) (h2 : n * b.toInt < 2147483648) : (c * b).toInt = n * b.toInt := by
  subst hc
  exact y_mul h1 h2
theorem y_mulR {a c : Int32} {n : Int} (hc : c.toInt = n) (h1 : -2147483648 ≤ a.toInt * n) (h2 : a.toInt * n < 2147483648) : (a * c).toInt = a.toInt * n := by
  subst hc
  exact y_mul h1 h2
theorem y_div {a c : Int32} {n : Int} (hc : c.toInt = n) (hn : 0 < n) (ha : 0 ≤ a.toInt) : (a / c).toInt = a.toInt / n := by
  have h1 : a.toInt < 2147483648 := a.toInt_lt
  have h2 : 0 ≤ a.toInt / n := Int.ediv_nonneg ha (by omega)
  have h3 : a.toInt / n ≤ a.toInt := Int.ediv_le_self _ ha
  rw [Int32.toInt_div, hc, Int.tdiv_eq_ediv_of_nonneg ha]
  exact Int.bmod_eq_of_le (by omega) (by omega)
theorem y_rem {a c : Int32} {n : Int} (hc : c.toInt = n) (hn : 0 < n) (ha : 0 ≤ a.toInt) : (a - a / c * c).toInt = a.toInt % n := by
  have h1 : a.toInt < 2147483648 := a.toInt_lt
  have hd := y_div hc hn ha
  have h4 := Int.mul_ediv_add_emod a.toInt n
  have h5 : 0 ≤ a.toInt % n := Int.emod_nonneg _ (by omega)
  have h6 : 0 ≤ a.toInt / n := Int.ediv_nonneg ha (by omega)
  have h7 : 0 ≤ n * (a.toInt / n) := Int.mul_nonneg (by omega) h6
  have hm : (a / c * c).toInt = n * (a.toInt / n) := by
    rw [y_mul (by rw [hd, hc, Int.mul_comm]; omega) (by rw [hd, hc, Int.mul_comm]; omega), hd, hc, Int.mul_comm]
  rw [y_sub (by omega) (by omega), hm]
  omega
theorem y_min {b a : Int32} : (if b < a then b else a).toInt ≤ b.toInt ∧ (if b < a then b else a).toInt ≤ a.toInt ∧ ((if b < a then b else a).toInt = b.toInt ∨ (if b < a then b else a).toInt = a.toInt) := by
  by_cases h : b < a
  · rw [if_pos h]; rw [Int32.lt_iff_toInt_lt] at h; omega
  · rw [if_neg h]; rw [Int32.lt_iff_toInt_lt] at h; omega
theorem y_sar (x c : Int32) (n : Nat) (hc : ((c &&& 31).toBitVec.smod 32).toNat = n) : (x >>> (c &&& 31)).toInt = x.toInt / (2 ^ n : Nat) := by
  rw [← Int32.toInt_toBitVec, Int32.toBitVec_shiftRight]
  show (x.toBitVec.sshiftRight _).toInt = _
  rw [hc, BitVec.toInt_sshiftRight, Int32.toInt_toBitVec, Int.shiftRight_eq_div_pow]
theorem y_sar16 (x : Int32) : (x >>> (16 &&& 31)).toInt = x.toInt / 65536 := y_sar x 16 16 (by decide)
theorem y_sar4 (x : Int32) : (x >>> (4 &&& 31)).toInt = x.toInt / 16 := y_sar x 4 4 (by decide)
theorem y_sar20 (x : Int32) : (x >>> (20 &&& 31)).toInt = x.toInt / 1048576 := y_sar x 20 20 (by decide)
theorem y_and (x m : Int32) (k : Nat) (hk : k ≤ 30) (hm : m.toBitVec.toNat = 2 ^ k - 1) : (x &&& m).toInt = x.toInt % (2 ^ k : Nat) := by
  rw [← Int32.toInt_toBitVec, Int32.toBitVec_and, BitVec.toInt_and, hm, Nat.and_two_pow_sub_one_eq_mod, ← Int32.toInt_toBitVec, BitVec.toInt_eq_toNat_bmod]
  have hp : 2 ^ k ≤ 2 ^ 30 := Nat.pow_le_pow_right (by omega) hk
  have hlt : x.toBitVec.toNat % 2 ^ k < 2 ^ k := Nat.mod_lt _ (Nat.two_pow_pos k)
  rw [Int.bmod_eq_of_le (by omega) (by omega)]
  have h32 : (2 ^ 32 : Nat) = 2 ^ k * 2 ^ (32 - k) := by rw [← Nat.pow_add]; congr 1; omega
  have hd : ((2 ^ k : Nat) : Int) ∣ ((2 ^ 32 : Nat) : Int) := ⟨((2 ^ (32 - k) : Nat) : Int), by rw [← Int.natCast_mul, ← h32]⟩
  rw [Int.bmod_def]
  have e1 : (x.toBitVec.toNat : Int) % ((2 ^ 32 : Nat) : Int) % ((2 ^ k : Nat) : Int) = (x.toBitVec.toNat : Int) % ((2 ^ k : Nat) : Int) := Int.emod_emod_of_dvd _ hd
  split
  · rw [e1]; exact Int.natCast_emod _ _
  · rw [Int.sub_emod, e1, Int.emod_eq_zero_of_dvd hd, Int.sub_zero, Int.emod_emod_of_dvd _ (Int.dvd_refl _)]; exact Int.natCast_emod _ _
theorem y_and16 (x : Int32) : (x &&& 65535).toInt = x.toInt % 65536 := y_and x 65535 16 (by omega) (by decide)
theorem y_and4 (x : Int32) : (x &&& 15).toInt = x.toInt % 16 := y_and x 15 4 (by omega) (by decide)
theorem y_and10 (x : Int32) : (x &&& 1023).toInt = x.toInt % 1024 := y_and x 1023 10 (by omega) (by decide)
theorem y_and8 (x : Int32) : (x &&& 255).toInt = x.toInt % 256 := y_and x 255 8 (by omega) (by decide)
theorem y_and1 (x : Int32) : (x &&& 1).toInt = x.toInt % 2 := y_and x 1 1 (by omega) (by decide)
theorem y_or0 {r : Int32} {A B : Prop} (h : (r.toInt = 0 ∧ A) ∨ (r.toInt = 1 ∧ B)) (c : r.toInt = Int32.toInt 0) : A := by
  rw [y_z] at c
  rcases h with h | h
  · exact h.2
  · omega
theorem y_or1 {r : Int32} {A B : Prop} (h : (r.toInt = 0 ∧ A) ∨ (r.toInt = 1 ∧ B)) (c : ¬ r.toInt = Int32.toInt 0) : B := by
  rw [y_z] at c
  rcases h with h | h
  · omega
  · exact h.2
theorem y_ok {a : Int32} {P : Prop} (h : a.toInt = 0 ∨ P) (c : ¬ a.toInt = Int32.toInt 0) : P := h.resolve_left (by rw [y_z] at c; exact c)
/-! arrays: bounds of cells -/
def y_Rg (n : Nat) (lo hi : Int) (g : Nat → Int32) : Prop := ∀ k, k < n → lo ≤ (g k).toInt ∧ (g k).toInt ≤ hi
theorem y_Rg.at {n : Nat} {lo hi : Int} {g : Nat → Int32} (h : y_Rg n lo hi g) (k : Nat) (hk : k < n) : lo ≤ (g k).toInt ∧ (g k).toInt ≤ hi := h k hk
theorem y_Rg_upd {n : Nat} {lo hi : Int} {g : Nat → Int32} {i : Nat} {v : Int32} (h : y_Rg n lo hi g) (h1 : lo ≤ v.toInt) (h2 : v.toInt ≤ hi) : y_Rg n lo hi (upd g i v) := by
  intro k hk
  unfold upd
  by_cases e : k = i
  · rw [if_pos e]; exact ⟨h1, h2⟩
  · rw [if_neg e]; exact h k hk
theorem y_Rg.mono {n m : Nat} {lo hi lo2 hi2 : Int} {g : Nat → Int32} (h : y_Rg n lo hi g) (h0 : m ≤ n) (h1 : lo2 ≤ lo) (h2 : hi ≤ hi2) : y_Rg m lo2 hi2 g := by
  intro k hk
  have := h k (by omega)
  omega
theorem y_rg0 (n : Nat) (g : Nat → Int32) : y_Rg n (-2147483648) 2147483647 g := by
  intro k hk
  have h1 := (g k).toInt_lt
  have h2 := (g k).le_toInt
  omega
/-- the same below n -/
def y_Eq (n : Nat) (g0 g : Nat → Int32) : Prop := ∀ k, k < n → g k = g0 k
theorem y_Eq.rf (n : Nat) (g : Nat → Int32) : y_Eq n g g := fun _ _ => rfl
theorem y_Eq_upd {n : Nat} {g0 g : Nat → Int32} {i : Nat} {v : Int32} (h : y_Eq n g0 g) (hi : n ≤ i) : y_Eq n g0 (upd g i v) := by
  intro k hk
  unfold upd
  rw [if_neg (by omega)]
  exact h k hk
theorem y_upd1 (g : Nat → Int32) (i : Nat) (v : Int32) : upd g i v i = v := if_pos rfl
theorem y_upd2 {g : Nat → Int32} {i j : Nat} {v : Int32} (h : j ≠ i) : upd g i v j = g j := if_neg h
/-! TYPES and what stands in a place -/
def y_Ty (t : Int32) : Prop := 0 ≤ t.toInt ∧ t.toInt < 16777216 ∧ (t.toInt % 65536 < 200 ∨ 65528 ≤ t.toInt % 65536)
def y_Tr (t : Int32) : Prop := 0 ≤ t.toInt ∧ t.toInt < 16777216 ∧ (t.toInt % 65536 < 200 ∨ 65528 ≤ t.toInt % 65536) ∧ ¬ (65528 ≤ t.toInt ∧ t.toInt < 65536)
def y_V (v : Int32) : Prop := 0 ≤ v.toInt ∧ v.toInt < 268435456 ∧ (v.toInt % 16 = 8 → (v.toInt / 16 % 65536 < 200 ∨ 65528 ≤ v.toInt / 16 % 65536) ∧ ¬ (65528 ≤ v.toInt / 16 ∧ v.toInt / 16 < 65536)) ∧ (v.toInt % 16 = 9 → v.toInt / 16 < 1000)
theorem y_V.b {v : Int32} (h : y_V v) : 0 ≤ v.toInt ∧ v.toInt < 268435456 := ⟨h.1, h.2.1⟩
theorem y_V.n {v : Int32} (h : y_V v) : v.toInt % 16 = 9 → v.toInt / 16 < 1000 := h.2.2.2
theorem y_Ty.b {v : Int32} (h : y_Ty v) : 0 ≤ v.toInt ∧ v.toInt < 16777216 := ⟨h.1, h.2.1⟩
theorem y_Tr.b {v : Int32} (h : y_Tr v) : 0 ≤ v.toInt ∧ v.toInt < 16777216 := ⟨h.1, h.2.1⟩
theorem y_Tr.ty {t : Int32} (h : y_Tr t) : y_Ty t := ⟨h.1, h.2.1, h.2.2.1⟩
theorem y_Vl {v : Int32} (h0 : 0 ≤ v.toInt) (h1 : v.toInt ≤ 202) : y_V v := by unfold y_V; omega
theorem y_V8 {t : Int32} (h : y_Tr t) : y_V ((16 : Int32) * t + (8 : Int32)) := by
  unfold y_Tr at h
  have e16 : (16 : Int32).toInt = 16 := rfl
  have e8 : (8 : Int32).toInt = 8 := rfl
  have e1 := @y_mulL 16 t 16 rfl (by omega) (by omega)
  have e2 := @y_add (16 * t) 8 (by omega) (by omega)
  unfold y_V
  omega
theorem y_V9 {t : Int32} (h0 : 0 ≤ t.toInt) (h1 : t.toInt < 1000) : y_V ((16 : Int32) * t + (9 : Int32)) := by
  have e16 : (16 : Int32).toInt = 16 := rfl
  have e8 : (9 : Int32).toInt = 9 := rfl
  have e1 := @y_mulL 16 t 16 rfl (by omega) (by omega)
  have e2 := @y_add (16 * t) 9 (by omega) (by omega)
  unfold y_V
  omega
theorem y_V10 {t : Int32} (h0 : 0 ≤ t.toInt) (h1 : t.toInt < 10000) : y_V ((16 : Int32) * t + (10 : Int32)) := by
  have e16 : (16 : Int32).toInt = 16 := rfl
  have e8 : (10 : Int32).toInt = 10 := rfl
  have e1 := @y_mulL 16 t 16 rfl (by omega) (by omega)
  have e2 := @y_add (16 * t) 10 (by omega) (by omega)
  unfold y_V
  omega
theorem y_Tr4 {v : Int32} (h : y_V v) (h8 : v.toInt % 16 = 8) : y_Tr (v >>> (4 &&& 31)) := by
  unfold y_V at h
  have e := y_sar4 v
  unfold y_Tr
  omega
theorem y_Vdn {v : Int32} (h : y_V v) (h1 : v.toInt % 16 = 8 ∧ 1048576 ≤ v.toInt) (h2 : ¬ (131064 ≤ v.toInt / 16 ∧ v.toInt / 16 < 131072)) : y_V (v - (1048576 : Int32)) := by
  unfold y_V at h
  have e1 : (1048576 : Int32).toInt = 1048576 := rfl
  have e2 := @y_sub v 1048576 (by omega) (by omega)
  unfold y_V
  omega
def y_AV (n : Nat) (g : Nat → Int32) : Prop := ∀ k, k < n → y_V (g k)
theorem y_AV.at {n : Nat} {g : Nat → Int32} (h : y_AV n g) (k : Nat) (hk : k < n) : y_V (g k) := h k hk
theorem y_AV_upd {n : Nat} {g : Nat → Int32} {i : Nat} {v : Int32} (h : y_AV n g) (hv : y_V v) : y_AV n (upd g i v) := by
  intro k hk
  unfold upd
  by_cases e : k = i
  · rw [if_pos e]; exact hv
  · rw [if_neg e]; exact h k hk
def y_ATy (n : Nat) (g : Nat → Int32) : Prop := ∀ k, k < n → y_Ty (g k)
theorem y_ATy.at {n : Nat} {g : Nat → Int32} (h : y_ATy n g) (k : Nat) (hk : k < n) : y_Ty (g k) := h k hk
theorem y_ATy_upd {n : Nat} {g : Nat → Int32} {i : Nat} {v : Int32} (h : y_ATy n g) (hv : y_Ty v) : y_ATy n (upd g i v) := by
  intro k hk
  unfold upd
  by_cases e : k = i
  · rw [if_pos e]; exact hv
  · rw [if_neg e]; exact h k hk
/-- a result: none, or a TYPE -/
def y_Rs (t : Int32) : Prop := t.toInt = -1 ∨ y_Ty t
theorem y_Rs.ty {t : Int32} (h : y_Rs t) (hn : ¬ t.toInt = -1) : y_Ty t := h.resolve_left hn
theorem y_Rs.b {t : Int32} (h : y_Rs t) : -1 ≤ t.toInt ∧ t.toInt < 16777216 := by
  rcases h with h | h
  · omega
  · have := h.b
    omega
def y_ARs (n : Nat) (g : Nat → Int32) : Prop := ∀ k, k < n → y_Rs (g k)
theorem y_ARs.at {n : Nat} {g : Nat → Int32} (h : y_ARs n g) (k : Nat) (hk : k < n) : y_Rs (g k) := h k hk
theorem y_ARs_upd {n : Nat} {g : Nat → Int32} {i : Nat} {v : Int32} (h : y_ARs n g) (hv : y_Rs v) : y_ARs n (upd g i v) := by
  intro k hk
  unfold upd
  by_cases e : k = i
  · rw [if_pos e]; exact hv
  · rw [if_neg e]; exact h k hk
/-! static arrays -/
theorem y_st0 (k : Nat) : 0 ≤ (x_st0 k).toInt ∧ (x_st0 k).toInt ≤ 4 := by
  unfold x_st0
  match k with
  | 0 => decide
  | 1 => decide
  | 2 => decide
  | 3 => decide
  | k + 4 =>
    have e : ([1, 3, 2, 4] : List Int32).getD (k + 4) 0 = 0 := rfl
    rw [e]
    decide
theorem y_st3 (k : Nat) : 0 ≤ (x_st3 k).toInt ∧ (x_st3 k).toInt ≤ 4 := y_st0 k
/-- what is known of an INSTRUCTION that was put -/
def y_In (o a b : Int32) : Prop := 0 ≤ o.toInt ∧ (o.toInt ≤ 199 ∧ ¬ (26 ≤ o.toInt ∧ o.toInt ≤ 45) ∧ ¬ (59 ≤ o.toInt ∧ o.toInt ≤ 78)) ∧ (18 ≤ o.toInt ∧ o.toInt ≤ 20 → y_Ty a) ∧ (21 ≤ o.toInt ∧ o.toInt ≤ 25 ∨ 54 ≤ o.toInt ∧ o.toInt ≤ 58 ∨ o.toInt = 132 ∨ o.toInt = 169 → 0 ≤ a.toInt) ∧ (153 ≤ o.toInt ∧ o.toInt ≤ 168 ∨ o.toInt = 198 ∨ o.toInt = 199 → 0 ≤ a.toInt) ∧ (178 ≤ o.toInt ∧ o.toInt ≤ 186 → 0 ≤ a.toInt ∧ a.toInt < 100) ∧ (o.toInt = 187 → 0 ≤ a.toInt ∧ a.toInt < 200) ∧ (o.toInt = 188 → 0 ≤ a.toInt ∧ a.toInt ≤ 7) ∧ (o.toInt = 189 → y_Tr a ∧ a.toInt / 65536 < 255) ∧ (o.toInt = 192 ∨ o.toInt = 193 → y_Tr a) ∧ (o.toInt = 196 ∨ o.toInt = 197 → y_Tr a ∧ 1 ≤ b.toInt ∧ b.toInt ≤ 255)
theorem y_In.o0 {o a b : Int32} (h : y_In o a b) : 0 ≤ o.toInt ∧ (o.toInt ≤ 199 ∧ ¬ (26 ≤ o.toInt ∧ o.toInt ≤ 45) ∧ ¬ (59 ≤ o.toInt ∧ o.toInt ≤ 78)) := ⟨h.1, h.2.1⟩
theorem y_In.ty {o a b : Int32} (h : y_In o a b) (e : 18 ≤ o.toInt ∧ o.toInt ≤ 20) : y_Ty a := h.2.2.1 e
theorem y_In.lc {o a b : Int32} (h : y_In o a b) (e : 21 ≤ o.toInt ∧ o.toInt ≤ 25 ∨ 54 ≤ o.toInt ∧ o.toInt ≤ 58 ∨ o.toInt = 132 ∨ o.toInt = 169) : 0 ≤ a.toInt := h.2.2.2.1 e
theorem y_In.jp {o a b : Int32} (h : y_In o a b) (e : 153 ≤ o.toInt ∧ o.toInt ≤ 168 ∨ o.toInt = 198 ∨ o.toInt = 199) : 0 ≤ a.toInt := h.2.2.2.2.1 e
theorem y_In.mb {o a b : Int32} (h : y_In o a b) (e : 178 ≤ o.toInt ∧ o.toInt ≤ 186) : 0 ≤ a.toInt ∧ a.toInt < 100 := h.2.2.2.2.2.1 e
theorem y_In.nw {o a b : Int32} (h : y_In o a b) (e : o.toInt = 187) : 0 ≤ a.toInt ∧ a.toInt < 200 := h.2.2.2.2.2.2.1 e
theorem y_In.na {o a b : Int32} (h : y_In o a b) (e : o.toInt = 188) : 0 ≤ a.toInt ∧ a.toInt ≤ 7 := h.2.2.2.2.2.2.2.1 e
theorem y_In.ar {o a b : Int32} (h : y_In o a b) (e : o.toInt = 189) : y_Tr a ∧ a.toInt / 65536 < 255 := h.2.2.2.2.2.2.2.2.1 e
theorem y_In.cc {o a b : Int32} (h : y_In o a b) (e : o.toInt = 192 ∨ o.toInt = 193) : y_Tr a := h.2.2.2.2.2.2.2.2.2.1 e
theorem y_In.mu {o a b : Int32} (h : y_In o a b) (e : o.toInt = 196 ∨ o.toInt = 197) : y_Tr a ∧ 1 ≤ b.toInt ∧ b.toInt ≤ 255 := h.2.2.2.2.2.2.2.2.2.2 e
def y_AIn (g1 g2 g3 : Nat → Int32) : Prop := ∀ k, k < 1000 → y_In (g1 k) (g2 k) (g3 k)
/-- what is above a CLASS: nothing above Object, else a lesser number -/
def y_Up (g : Nat → Int32) : Prop := (g 0).toInt = -1 ∧ ∀ k, 1 ≤ k → k < 200 → 0 ≤ (g k).toInt ∧ (g k).toInt < k
theorem y_Up.at {g : Nat → Int32} (h : y_Up g) (k : Nat) (hk : k < 200) : -1 ≤ (g k).toInt ∧ (g k).toInt < k ∧ (0 < k → 0 ≤ (g k).toInt) := by
  by_cases e : k = 0
  · subst e
    have := h.1
    omega
  · have := h.2 k (by omega) hk
    omega
/-- how high a place stands: null above all -/
def y_rk (v : Int32) : Int := if v.toInt = 5 then 2147483648 else v.toInt
