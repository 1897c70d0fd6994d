/-! the class's code: where its switches' TARGETS lie -/
def y_SB (n : Int) (m : Nat) (gf gu g7 : Nat → Int32) : Prop := ∀ k : Nat, (k : Int) < n → 0 ≤ (gf k).toInt ∧ (gf k).toInt ≤ (gu k).toInt ∧ (gu k).toInt ≤ (gf k).toInt + 50 ∧ (gf k).toInt ≤ 50 * k ∧ (gu k).toInt ≤ m ∧ (k = 0 → (gf k).toInt = 0) ∧ (∀ j : Nat, k = j + 1 → (gf k).toInt = (gu j).toInt) ∧ ((gf k).toInt < (gu k).toInt → (g7 k).toInt = 170 ∨ (g7 k).toInt = 171)
theorem y_SB.at {n : Int} {m : Nat} {gf gu g7 : Nat → Int32} (h : y_SB n m gf gu g7) (k : Nat) (hk : (k : Int) < n) : 0 ≤ (gf k).toInt ∧ (gf k).toInt ≤ (gu k).toInt ∧ (gu k).toInt ≤ (gf k).toInt + 50 ∧ (gf k).toInt ≤ 50 * k ∧ (gu k).toInt ≤ m ∧ (k = 0 → (gf k).toInt = 0) := by
  have := h k hk
  exact ⟨this.1, this.2.1, this.2.2.1, this.2.2.2.1, this.2.2.2.2.1, this.2.2.2.2.2.1⟩
theorem y_SB.sw {n : Int} {m : Nat} {gf gu g7 : Nat → Int32} (h : y_SB n m gf gu g7) (k : Nat) (hk : (k : Int) < n) : (gf k).toInt < (gu k).toInt → (g7 k).toInt = 170 ∨ (g7 k).toInt = 171 := (h k hk).2.2.2.2.2.2.2
theorem y_SB0 {n : Int} {m : Nat} {gf gu g7 : Nat → Int32} (h : n ≤ 0) : y_SB n m gf gu g7 := fun k hk => by omega
theorem y_SB_put {n n2 : Int} {m : Nat} {gf gu g7 : Nat → Int32} {i : Nat} {v w o : Int32} (h : y_SB n m gf gu g7) (h0 : 0 ≤ n) (hi : (i : Int) = n) (hn : n2 = n + 1) (hw : w.toInt = v.toInt) (hv : (n = 0 → v.toInt = 0) ∧ (∀ j : Nat, (j : Int) = n - 1 → v.toInt = (gu j).toInt)) : y_SB n2 m (upd gf i v) (upd gu i w) (upd g7 i o) := by
  intro k hk
  by_cases e : k = i
  · subst e
    rw [y_upd1, y_upd1]
    have hb : 0 ≤ v.toInt ∧ v.toInt ≤ 50 * k ∧ v.toInt ≤ m := by
      by_cases e0 : k = 0
      · have := hv.1 (by omega); omega
      · have a := h (k - 1) (by omega)
        have b := hv.2 (k - 1) (by omega)
        omega
    refine ⟨by omega, by omega, by omega, by omega, by omega, fun z => hv.1 (by omega), ?_, fun z => by omega⟩
    intro j hj
    rw [y_upd2 (by omega)]
    exact hv.2 j (by omega)
  · rw [y_upd2 e, y_upd2 e, y_upd2 e]
    have a := h k (by omega)
    refine ⟨a.1, a.2.1, a.2.2.1, a.2.2.2.1, a.2.2.2.2.1, a.2.2.2.2.2.1, ?_, a.2.2.2.2.2.2.2⟩
    intro j hj
    rw [y_upd2 (by omega)]
    exact a.2.2.2.2.2.2.1 j hj
theorem y_SB_to {n : Int} {m m2 : Nat} {gf gu g7 : Nat → Int32} {i : Nat} {w : Int32} (h : y_SB n m gf gu g7) (hi : (i : Int) = n - 1) (hw : w.toInt = (gu i).toInt + 1) (h50 : w.toInt ≤ (gf i).toInt + 50) (hm : m ≤ m2) (hm2 : w.toInt ≤ m2) (ho : (g7 i).toInt = 170 ∨ (g7 i).toInt = 171) : y_SB n m2 gf (upd gu i w) g7 := by
  intro k hk
  have a := h k hk
  by_cases e : k = i
  · subst e
    rw [y_upd1]
    refine ⟨a.1, by omega, by omega, a.2.2.2.1, by omega, a.2.2.2.2.2.1, ?_, fun _ => ho⟩
    intro j hj
    rw [y_upd2 (by omega)]
    exact a.2.2.2.2.2.2.1 j hj
  · rw [y_upd2 e]
    refine ⟨a.1, a.2.1, a.2.2.1, a.2.2.2.1, by omega, a.2.2.2.2.2.1, ?_, a.2.2.2.2.2.2.2⟩
    intro j hj
    rw [y_upd2 (by omega)]
    exact a.2.2.2.2.2.2.1 j hj
/-- all TARGETS of the first n are INSTRUCTIONS -/
def y_SU (n mn : Int) (gu gt : Nat → Int32) : Prop := ∀ k : Nat, (k : Int) < n → ∀ j : Nat, (j : Int) < (gu k).toInt → (gt j).toInt < mn
theorem y_SU.at {n mn : Int} {gu gt : Nat → Int32} (h : y_SU n mn gu gt) (k : Nat) (hk : (k : Int) < n) (j : Nat) (hj : (j : Int) < (gu k).toInt) : (gt j).toInt < mn := h k hk j hj
theorem y_SU_s {n n2 mn : Int} {m : Nat} {gf gu gt g7 : Nat → Int32} {i : Nat} (h : y_SU n mn gu gt) (hb : y_SB n2 m gf gu g7) (hi : (i : Int) = n) (hn : n < n2) (hs : y_SwP (gf i).toInt ((gu i).toInt - (gf i).toInt) mn gt) : y_SU (n + 1) mn gu gt := by
  intro k hk j hj
  by_cases e : k = i
  · subst e
    by_cases e2 : (j : Int) < (gf k).toInt
    · have a := hb k (by omega)
      by_cases e3 : k = 0
      · have := a.2.2.2.2.2.1 e3; omega
      · have b := a.2.2.2.2.2.2.1 (k - 1) (by omega)
        exact h (k - 1) (by omega) j (by omega)
    · exact hs j (by omega) (by omega)
  · exact h k (by omega) j hj
theorem y_SU_m {n n2 mn : Int} {gu gt : Nat → Int32} (h : y_SU n mn gu gt) (hn : n2 ≤ n) : y_SU n2 mn gu gt := fun k hk => h k (by omega)
/-- the ROWS' handlers are INSTRUCTIONS -/
def y_RH (n mn : Int) (g : Nat → Int32) : Prop := ∀ k : Nat, (k : Int) < n → (g (4 * k + 2)).toInt < mn
theorem y_RH.at {n mn : Int} {g : Nat → Int32} (h : y_RH n mn g) {k i : Nat} (hk : (k : Int) < n) (hi : i = 4 * k + 2) : (g i).toInt < mn := by
  subst hi
  exact h k hk
theorem y_RH_s {n n2 mn : Int} {g : Nat → Int32} {k i : Nat} (h : y_RH n mn g) (hn : n2 = n + 1) (hk : (k : Int) = n) (hi : i = 4 * k + 2) (hv : (g i).toInt < mn) : y_RH n2 mn g := by
  subst hi
  intro j hj
  by_cases e : j = k
  · subst e; exact hv
  · exact h j (by omega)
theorem y_RH0 {n mn : Int} {g : Nat → Int32} (h : n ≤ 0) : y_RH n mn g := fun k hk => by omega
/-- a ROW's type: none or a CLASS, and its bounds not below 0 -/
def y_RW (n : Int) (g : Nat → Int32) : Prop := ∀ k : Nat, (k : Int) < n → 0 ≤ (g (4 * k + 2)).toInt ∧ -1 ≤ (g (4 * k + 3)).toInt ∧ (g (4 * k + 3)).toInt ≤ 199
theorem y_RW.h {n : Int} {g : Nat → Int32} (h : y_RW n g) {k i : Nat} (hk : (k : Int) < n) (hi : i = 4 * k + 2) : 0 ≤ (g i).toInt := by
  subst hi
  exact (h k hk).1
theorem y_RW.t {n : Int} {g : Nat → Int32} (h : y_RW n g) {k i : Nat} (hk : (k : Int) < n) (hi : i = 4 * k + 3) : -1 ≤ (g i).toInt ∧ (g i).toInt ≤ 199 := by
  subst hi
  exact (h k hk).2
theorem y_RW0 {n : Int} {g : Nat → Int32} (h : n ≤ 0) : y_RW n g := fun k hk => by omega
theorem y_RW_put {n n2 : Int} {g : Nat → Int32} {k a b c d : Nat} {v1 v2 v3 v4 : Int32} (h : y_RW n g) (hn : n2 = n + 1) (hk : (k : Int) = n) (ha : a = 4 * k) (hb : b = 4 * k + 1) (hc : c = 4 * k + 2) (hd : d = 4 * k + 3) (h3 : 0 ≤ v3.toInt) (h4 : -1 ≤ v4.toInt ∧ v4.toInt ≤ 199) : y_RW n2 (upd (upd (upd (upd g a v1) b v2) c v3) d v4) := by
  subst ha hb hc hd
  intro j hj
  by_cases e : j = k
  · subst e
    refine ⟨?_, ?_⟩
    · rw [y_upd2 (by omega), y_upd1]; exact h3
    · rw [y_upd1]; exact h4
  · have := h j (by omega)
    rw [y_upd2 (by omega), y_upd2 (by omega), y_upd2 (by omega), y_upd2 (by omega), y_upd2 (by omega), y_upd2 (by omega), y_upd2 (by omega), y_upd2 (by omega)]
    exact this
