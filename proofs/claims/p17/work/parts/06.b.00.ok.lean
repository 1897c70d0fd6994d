/-! for the class -/
theorem y_bt {α β : Type} {o : Option α} {k : α → Option β} {Q : β → Prop} (h : y_Ok o (fun r => y_Ok (k r) Q)) : y_Ok (o >>= k) Q := by
  obtain ⟨r, rfl, hr⟩ := h
  exact hr
theorem y_nn {x : Int32} (h : 0 ≤ x.toInt) : (x.toBitVec.toNat : Int) = x.toInt := by
  rw [← Int32.toInt_toBitVec, BitVec.toInt_eq_toNat_cond] at *
  split at h <;> split <;> omega
theorem y_ush16 {x : Int32} (h : 0 ≤ x.toInt) : (x_ush x 16).toInt = x.toInt / 65536 := by
  have hn := y_nn h
  have hlt := x.toInt_lt
  have e : (x_ush x 16).toBitVec = x.toBitVec >>> 16 := rfl
  have e2 : (x.toBitVec >>> 16).toNat = x.toBitVec.toNat / 65536 := by
    rw [BitVec.toNat_ushiftRight, Nat.shiftRight_eq_div_pow]
  rw [← Int32.toInt_toBitVec, e, BitVec.toInt_eq_toNat_cond, e2]
  split <;> omega
theorem y_shl16 {x : Int32} (h : 0 ≤ x.toInt) (h2 : x.toInt ≤ 32767) : (x <<< (16 &&& 31)).toInt = x.toInt * 65536 := by
  have hn := y_nn h
  have e : (x <<< (16 &&& 31)).toBitVec = x.toBitVec <<< 16 := rfl
  have e2 : (x.toBitVec <<< 16).toNat = x.toBitVec.toNat * 65536 := by
    rw [BitVec.toNat_shiftLeft, Nat.shiftLeft_eq, Nat.mod_eq_of_lt (by omega)]
  rw [← Int32.toInt_toBitVec, e, BitVec.toInt_eq_toNat_cond, e2]
  split <;> omega
theorem y_ofNat {n : Nat} (h : n < 2147483648) : (Int32.ofNat n).toInt = n := by
  have e : (Int32.ofNat n).toBitVec = BitVec.ofNat 32 n := rfl
  rw [← Int32.toInt_toBitVec, e, BitVec.toInt_eq_toNat_cond, BitVec.toNat_ofNat, Nat.mod_eq_of_lt (by omega)]
  split <;> omega
theorem y_nb {v : Int32} (h0 : 0 ≤ v.toInt) (h1 : v.toInt ≤ 1) : 0 ≤ (vp_nar .boolean v).toInt ∧ (vp_nar .boolean v).toInt ≤ 1 := by
  by_cases e : v.toInt = 0
  · have : v = 0 := Int32.toInt_inj.mp (by rw [e]; rfl)
    subst this; decide
  · have : v = 1 := Int32.toInt_inj.mp (by rw [show v.toInt = 1 by omega]; rfl)
    subst this; decide
theorem y_Rg_cpy {n : Nat} {lo hi : Int} {f g : Nat → Int32} {sp dp c : Nat} (hf : ∀ k, sp ≤ k → k < sp + c → lo ≤ (f k).toInt ∧ (f k).toInt ≤ hi) (hg : y_Rg n lo hi g) : y_Rg n lo hi (va_cpy f g sp dp c) := by
  intro k hk
  unfold va_cpy
  by_cases e : dp ≤ k ∧ k < dp + c
  · rw [if_pos e]; exact hf _ (by omega) (by omega)
  · rw [if_neg e]; exact hg k hk
theorem y_z0 (n : Nat) {lo hi : Int} (h1 : lo ≤ 0) (h2 : 0 ≤ hi) : y_Rg n lo hi x_z0 := by
  intro k _
  show lo ≤ (0 : Int32).toInt ∧ (0 : Int32).toInt ≤ hi
  rw [y_z]
  exact ⟨h1, h2⟩
theorem y_st1 (k : Nat) : 0 ≤ (x_st1 k).toInt ∧ (x_st1 k).toInt ≤ 5 := by
  unfold x_st1
  by_cases h : k < 16
  · revert k; decide
  · rw [List.getD_eq_getElem?_getD, List.getElem?_eq_none (by simp; omega)]; decide
theorem y_st2 (k : Nat) : 0 ≤ (x_st2 k).toInt ∧ (x_st2 k).toInt ≤ 444 := by
  unfold x_st2
  by_cases h : k < 57
  · revert k; decide
  · rw [List.getD_eq_getElem?_getD, List.getElem?_eq_none (by simp; omega)]; decide
theorem y_st4 (k : Nat) : 0 ≤ (x_st4 k).toInt ∧ (x_st4 k).toInt ≤ 65535 := by
  unfold x_st4
  by_cases h : k < 8
  · revert k; decide
  · rw [List.getD_eq_getElem?_getD, List.getElem?_eq_none (by simp; omega)]; decide
theorem y_st5 (k : Nat) : 0 ≤ (x_st5 k).toInt ∧ (x_st5 k).toInt ≤ 2 ∧ (k < 6 → 1 ≤ (x_st5 k).toInt) := by
  unfold x_st5
  by_cases h : k < 6
  · revert k; decide
  · rw [List.getD_eq_getElem?_getD, List.getElem?_eq_none (by simp; omega)]
    exact ⟨by decide, by decide, fun z => absurd z h⟩
theorem y_st6 (k : Nat) : 0 ≤ (x_st6 k).toInt ∧ (x_st6 k).toInt ≤ 2 := by
  unfold x_st6
  by_cases h : k < 6
  · revert k; decide
  · rw [List.getD_eq_getElem?_getD, List.getElem?_eq_none (by simp; omega)]; decide
theorem y_st4t (k : Nat) : y_Ty (x_st4 k) := by
  have h : 0 ≤ (x_st4 k).toInt ∧ (x_st4 k).toInt < 16777216 ∧ ((x_st4 k).toInt % 65536 < 200 ∨ 65528 ≤ (x_st4 k).toInt % 65536) := by
    unfold x_st4
    by_cases h : k < 8
    · revert k; decide
    · rw [List.getD_eq_getElem?_getD, List.getElem?_eq_none (by simp; omega)]; decide
  exact h
theorem y_arrb {v : Int32} (h : v.toInt = -1 ∨ 65536 ≤ v.toInt ∧ y_Tr v) : -1 ≤ v.toInt ∧ v.toInt < 16777216 := by
  rcases h with h | h
  · omega
  · have := h.2.b
    omega
theorem y_eqN {a c : Int32} {n : Int} (hc : c.toInt = n) : a = c ↔ a.toInt = n := by
  rw [← Int32.toInt_inj, hc]
/-! what grows, grows to twice as much or stays -/
def y_Db (a b : Nat) : Prop := b = a ∨ 2 * a ≤ b
theorem y_DbI {a b : Nat} (h : b = a ∨ 2 * a ≤ b) : y_Db a b := h
theorem y_Db.or {a b : Nat} (h : y_Db a b) : a = b ∨ 2 * a ≤ b := by
  unfold y_Db at h
  omega
theorem y_Db.rf (a : Nat) : y_Db a a := Or.inl rfl
theorem y_Db.tr {a b c : Nat} (h : y_Db a b) (h2 : y_Db b c) : y_Db a c := by
  unfold y_Db at *
  omega
