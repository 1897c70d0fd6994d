/-! what formed says -/
def y_Fm (n mL mn : Int) (g1 g2 : Nat → Int32) : Prop := ∀ k : Nat, (k : Int) < n → (21 ≤ (g1 k).toInt ∧ (g1 k).toInt ≤ 25 ∨ 54 ≤ (g1 k).toInt ∧ (g1 k).toInt ≤ 58 ∨ (g1 k).toInt = 132 ∨ (g1 k).toInt = 169 → (g2 k).toInt < mL) ∧ (153 ≤ (g1 k).toInt ∧ (g1 k).toInt ≤ 168 ∨ (g1 k).toInt = 198 ∨ (g1 k).toInt = 199 → (g2 k).toInt < mn)
theorem y_Fm.at {n mL mn : Int} {g1 g2 : Nat → Int32} (h : y_Fm n mL mn g1 g2) (k : Nat) (hk : (k : Int) < n) : (21 ≤ (g1 k).toInt ∧ (g1 k).toInt ≤ 25 ∨ 54 ≤ (g1 k).toInt ∧ (g1 k).toInt ≤ 58 ∨ (g1 k).toInt = 132 ∨ (g1 k).toInt = 169 → (g2 k).toInt < mL) ∧ (153 ≤ (g1 k).toInt ∧ (g1 k).toInt ≤ 168 ∨ (g1 k).toInt = 198 ∨ (g1 k).toInt = 199 → (g2 k).toInt < mn) := h k hk
theorem y_Fm_s {n n2 mL mn : Int} {i : Nat} {g1 g2 : Nat → Int32} (h : y_Fm n mL mn g1 g2) (hn : n2 = n + 1) (hi : (i : Int) = n) (h1 : 21 ≤ (g1 i).toInt ∧ (g1 i).toInt ≤ 25 ∨ 54 ≤ (g1 i).toInt ∧ (g1 i).toInt ≤ 58 ∨ (g1 i).toInt = 132 ∨ (g1 i).toInt = 169 → (g2 i).toInt < mL) (h2 : 153 ≤ (g1 i).toInt ∧ (g1 i).toInt ≤ 168 ∨ (g1 i).toInt = 198 ∨ (g1 i).toInt = 199 → (g2 i).toInt < mn) : y_Fm n2 mL mn g1 g2 := by
  intro k hk
  by_cases e : k = i
  · subst e; exact ⟨h1, h2⟩
  · exact h k (by omega)
theorem y_Fm_m {n n2 mL mn : Int} {g1 g2 : Nat → Int32} (h : y_Fm n mL mn g1 g2) (hn : n2 ≤ n) : y_Fm n2 mL mn g1 g2 := fun k hk => h k (by omega)
def y_SwP (a l mn : Int) (g : Nat → Int32) : Prop := ∀ j : Nat, a ≤ j → (j : Int) < a + l → (g j).toInt < mn
theorem y_SwP.at {a l mn : Int} {g : Nat → Int32} (h : y_SwP a l mn g) (j : Nat) (h1 : a ≤ j) (h2 : (j : Int) < a + l) : (g j).toInt < mn := h j h1 h2
theorem y_SwP_0 {a l mn : Int} {g : Nat → Int32} (h : l ≤ 0) : y_SwP a l mn g := fun j h1 h2 => by omega
theorem y_SwP_s {a l l2 mn : Int} {i : Nat} {g : Nat → Int32} (h : y_SwP a l mn g) (hl : l2 = l + 1) (hi : (i : Int) = a + l) (hv : (g i).toInt < mn) : y_SwP a l2 mn g := by
  intro j h1 h2
  by_cases e : j = i
  · subst e; exact hv
  · exact h j h1 (by omega)
theorem y_SwP_m {a l l2 mn : Int} {g : Nat → Int32} (h : y_SwP a l mn g) (hl : l2 ≤ l) : y_SwP a l2 mn g := fun j h1 h2 => h j h1 (by omega)
def y_Sw (n mn : Int) (g1 ga gm gt : Nat → Int32) : Prop := ∀ k : Nat, (k : Int) < n → ((g1 k).toInt = 170 ∨ (g1 k).toInt = 171) → y_SwP (ga k).toInt (gm k).toInt mn gt
theorem y_Sw.at {n mn : Int} {g1 ga gm gt : Nat → Int32} (h : y_Sw n mn g1 ga gm gt) (k : Nat) (hk : (k : Int) < n) (ho : (g1 k).toInt = 170 ∨ (g1 k).toInt = 171) : y_SwP (ga k).toInt (gm k).toInt mn gt := h k hk ho
theorem y_Sw_s {n n2 mn : Int} {i : Nat} {g1 ga gm gt : Nat → Int32} (h : y_Sw n mn g1 ga gm gt) (hn : n2 = n + 1) (hi : (i : Int) = n) (hv : ((g1 i).toInt = 170 ∨ (g1 i).toInt = 171) → y_SwP (ga i).toInt (gm i).toInt mn gt) : y_Sw n2 mn g1 ga gm gt := by
  intro k hk ho
  by_cases e : k = i
  · subst e; exact hv ho
  · exact h k (by omega) ho
theorem y_Sw_m {n n2 mn : Int} {g1 ga gm gt : Nat → Int32} (h : y_Sw n mn g1 ga gm gt) (hn : n2 ≤ n) : y_Sw n2 mn g1 ga gm gt := fun k hk => h k (by omega)
/-- where a switch's TARGETS lie -/
def y_TA (n : Int) (ga gm : Nat → Int32) : Prop := ∀ k : Nat, (k : Int) < n → 0 ≤ (ga k).toInt ∧ 0 ≤ (gm k).toInt ∧ (gm k).toInt ≤ 50 ∧ (ga k).toInt + (gm k).toInt ≤ 50000
theorem y_TA.at {n : Int} {ga gm : Nat → Int32} (h : y_TA n ga gm) (k : Nat) (hk : (k : Int) < n) : 0 ≤ (ga k).toInt ∧ 0 ≤ (gm k).toInt ∧ (gm k).toInt ≤ 50 ∧ (ga k).toInt + (gm k).toInt ≤ 50000 := h k hk
/-! at the start -/
theorem y_Fit0 {n : Int} {C : Nat} (h : n = 0) : y_Fit n C := by
  subst h
  unfold y_Fit
  omega
theorem y_Q0 {f w n : Int} {g : Nat → Int32} (h : w ≤ 0) : y_Q f w n g := fun j hj => by omega
theorem y_H0 {C : Nat} {n m : Int} {g : Nat → Int32} (h : n ≤ 0) : y_H C n m g := fun s hs => by omega
theorem y_R10 {n lo hi : Int} {g : Nat → Int32} (h : n ≤ 1) : y_R1 n lo hi g := fun k h0 hk => by omega
theorem y_BI0 {n : Int} {g : Nat → Int32} (h : n ≤ 1) : y_BI n g := fun k h0 hk => by omega
theorem y_DI0 {n : Int} {g : Nat → Int32} (h : n ≤ 0) : y_DI n g := fun k hk => by omega
/-- what comes later comes to an end -/
def y_Lt (n M w n2 M2 w2 : Int) : Prop := n < n2 ∨ n2 = n ∧ (M2 < M ∨ M2 ≤ M ∧ w2 < w)
theorem y_lex (P : Int → Int → Int → Prop) (hP : ∀ n M w : Int, n ≤ 20001 → 0 ≤ M → 0 ≤ w → (∀ n2 M2 w2 : Int, n2 ≤ 20001 → 0 ≤ M2 → 0 ≤ w2 → y_Lt n M w n2 M2 w2 → P n2 M2 w2) → P n M w) : ∀ n M w : Int, n ≤ 20001 → 0 ≤ M → 0 ≤ w → P n M w := by
  have h1 : ∀ a : Nat, ∀ n M w : Int, (20001 - n).toNat < a → n ≤ 20001 → 0 ≤ M → 0 ≤ w → P n M w := by
    intro a
    induction a with
    | zero => intro n M w h; omega
    | succ a iha =>
      have h2 : ∀ b : Nat, ∀ n M w : Int, (20001 - n).toNat < a + 1 → M.toNat < b → n ≤ 20001 → 0 ≤ M → 0 ≤ w → P n M w := by
        intro b
        induction b with
        | zero => intro n M w _ h; omega
        | succ b ihb =>
          have h3 : ∀ c : Nat, ∀ n M w : Int, (20001 - n).toNat < a + 1 → M.toNat < b + 1 → w.toNat < c → n ≤ 20001 → 0 ≤ M → 0 ≤ w → P n M w := by
            intro c
            induction c with
            | zero => intro n M w _ _ h; omega
            | succ c ihc =>
              intro n M w ha hb hc hn hM hw
              refine hP n M w hn hM hw ?_
              intro n2 M2 w2 hn2 hM2 hw2 hd
              rcases hd with hd | ⟨he, hd | ⟨hd, hd2⟩⟩
              · exact iha n2 M2 w2 (by omega) hn2 hM2 hw2
              · exact ihb n2 M2 w2 (by omega) (by omega) hn2 hM2 hw2
              · exact ihc n2 M2 w2 (by omega) (by omega) (by omega) hn2 hM2 hw2
          intro n M w ha hb hn hM hw
          exact h3 (w.toNat + 1) n M w ha hb (by omega) hn hM hw
      intro n M w ha hn hM hw
      exact h2 (M.toNat + 1) n M w ha (by omega) hn hM hw
  intro n M w hn hM hw
  exact h1 ((20001 - n).toNat + 1) n M w (by omega) hn hM hw
/-- what is told -/
def y_Told (t tl ts cx : Int) (gb gd gc go gf : Nat → Int32) : Prop := 0 ≤ t ∧ 0 ≤ tl ∧ tl ≤ 200 ∧ 0 ≤ ts ∧ ts ≤ 200 ∧ (0 < t → 1 ≤ cx ∧ cx ≤ 20001 ∧ y_BI cx gb ∧ y_NI cx gd ∧ y_RI t 0 (cx - 1) gc ∧ y_RI t 0 (t - 1) go ∧ y_Fit t (tl + ts).toNat ∧ y_H (tl + ts).toNat t ts gf)
theorem y_Told.b {t tl ts cx : Int} {gb gd gc go gf : Nat → Int32} (h : y_Told t tl ts cx gb gd gc go gf) : 0 ≤ t ∧ 0 ≤ tl ∧ tl ≤ 200 ∧ 0 ≤ ts ∧ ts ≤ 200 := ⟨h.1, h.2.1, h.2.2.1, h.2.2.2.1, h.2.2.2.2.1⟩
theorem y_Told.p {t tl ts cx : Int} {gb gd gc go gf : Nat → Int32} (h : y_Told t tl ts cx gb gd gc go gf) (h0 : 0 < t) : 1 ≤ cx ∧ cx ≤ 20001 ∧ y_BI cx gb ∧ y_NI cx gd ∧ y_RI t 0 (cx - 1) gc ∧ y_RI t 0 (t - 1) go ∧ y_Fit t (tl + ts).toNat ∧ y_H (tl + ts).toNat t ts gf := h.2.2.2.2.2 h0
theorem y_Told0 {t tl ts cx : Int} {gb gd gc go gf : Nat → Int32} (h : t = 0) (h1 : 0 ≤ tl) (h2 : tl ≤ 200) (h3 : 0 ≤ ts) (h4 : ts ≤ 200) : y_Told t tl ts cx gb gd gc go gf := ⟨by omega, h1, h2, h3, h4, fun h0 => by omega⟩
theorem y_Told.x {t tl ts cx : Int} {gb gd gc go gf : Nat → Int32} (h : y_Told t tl ts cx gb gd gc go gf) (h1 : y_NI 1 gd) : ∃ cx2 : Int, 1 ≤ cx2 ∧ cx2 ≤ 20001 ∧ y_BI cx2 gb ∧ y_NI cx2 gd ∧ y_RI t 0 (cx2 - 1) gc ∧ y_RI t 0 (t - 1) go ∧ y_Fit t (tl + ts).toNat ∧ y_H (tl + ts).toNat t ts gf := by
  by_cases h0 : 0 < t
  · exact ⟨cx, h.p h0⟩
  · have := h.b
    exact ⟨1, by omega, by omega, y_BI0 (by omega), h1, y_RI0 (by omega), y_RI0 (by omega), y_Fit0 (by omega), y_H0 (by omega)⟩
theorem y_AIn.op {g1 g2 g3 : Nat → Int32} (h : y_AIn g1 g2 g3) : y_Rg 1000 0 199 g1 := fun k hk => by
  have := (h k hk).o0
  omega
/-- the switches' TARGETS so far -/
def y_TB (n tos : Int) (ga gm : Nat → Int32) : Prop := 0 ≤ tos ∧ (∀ k : Nat, (k : Int) < n → 0 ≤ (ga k).toInt ∧ (ga k).toInt ≤ 50 * k ∧ 0 ≤ (gm k).toInt ∧ (gm k).toInt ≤ 50) ∧ (n = 0 → tos = 0) ∧ (∀ k : Nat, (k : Int) = n - 1 → (ga k).toInt + (gm k).toInt = tos)
theorem y_TB.at {n tos : Int} {ga gm : Nat → Int32} (h : y_TB n tos ga gm) (k : Nat) (hk : (k : Int) < n) : 0 ≤ (ga k).toInt ∧ (ga k).toInt ≤ 50 * k ∧ 0 ≤ (gm k).toInt ∧ (gm k).toInt ≤ 50 := h.2.1 k hk
theorem y_TB.la {n tos : Int} {ga gm : Nat → Int32} (h : y_TB n tos ga gm) (k : Nat) (hk : (k : Int) = n - 1) : (ga k).toInt + (gm k).toInt = tos := h.2.2.2 k hk
theorem y_TB.ta {n tos : Int} {ga gm : Nat → Int32} (h : y_TB n tos ga gm) (hn : n ≤ 1000) : y_TA n ga gm := fun k hk => by
  have := h.at k hk
  omega
theorem y_TB0 {ga gm : Nat → Int32} {n tos : Int} (hn : n = 0) (ht : tos = 0) : y_TB n tos ga gm := ⟨by omega, fun k hk => by omega, fun _ => ht, fun k hk => by omega⟩
theorem y_TB.tos {n tos : Int} {ga gm : Nat → Int32} (h : y_TB n tos ga gm) (h0 : 0 ≤ n) : 0 ≤ tos ∧ tos ≤ 50 * n := by
  obtain ⟨h1, h2, h3, h4⟩ := h
  by_cases e : n = 0
  · have := h3 e; omega
  · have a := h2 (n - 1).toNat (by omega)
    have b := h4 (n - 1).toNat (by omega)
    omega
theorem y_TB_put {n n2 tos : Int} {ga gm : Nat → Int32} {i : Nat} {v w : Int32} (h : y_TB n tos ga gm) (h0 : 0 ≤ n) (hi : (i : Int) = n) (hn : n2 = n + 1) (hv : v.toInt = tos) (hw : w.toInt = 0) : y_TB n2 tos (upd ga i v) (upd gm i w) := by
  have ht := h.tos h0
  obtain ⟨h1, h2, h3, h4⟩ := h
  refine ⟨h1, ?_, by omega, ?_⟩
  · intro k hk
    by_cases e : k = i
    · subst e; rw [y_upd1, y_upd1]; omega
    · rw [y_upd2 e, y_upd2 e]; exact h2 k (by omega)
  · intro k hk
    have e : k = i := by omega
    subst e
    rw [y_upd1, y_upd1]; omega
theorem y_TB_to {n tos tos2 : Int} {ga gm : Nat → Int32} {i : Nat} {w : Int32} (h : y_TB n tos ga gm) (h0 : 0 < n) (hi : (i : Int) = n - 1) (ht : tos2 = tos + 1) (hw : w.toInt = (gm i).toInt + 1) (h50 : w.toInt ≤ 50) : y_TB n tos2 ga (upd gm i w) := by
  obtain ⟨h1, h2, h3, h4⟩ := h
  refine ⟨by omega, ?_, by omega, ?_⟩
  · intro k hk
    have := h2 k hk
    by_cases e : k = i
    · subst e; rw [y_upd1]; omega
    · rw [y_upd2 e]; exact this
  · intro k hk
    have e : k = i := by omega
    subst e
    rw [y_upd1]
    have := h4 k hk
    omega
theorem y_AIn_put {g1 g2 g3 : Nat → Int32} {i : Nat} {o a b : Int32} (h : y_AIn g1 g2 g3) (hv : y_In o a b) : y_AIn (upd g1 i o) (upd g2 i a) (upd g3 i b) := by
  intro k hk
  by_cases e : k = i
  · subst e; rw [y_upd1, y_upd1, y_upd1]; exact hv
  · rw [y_upd2 e, y_upd2 e, y_upd2 e]; exact h k hk
theorem y_Up_add {g : Nat → Int32} {i : Nat} {v : Int32} (h : y_Up g) (hi : 4 ≤ i) (h0 : 0 ≤ v.toInt) (h1 : v.toInt < i) : y_Up (upd g i v) := by
  refine ⟨?_, ?_⟩
  · rw [y_upd2 (by omega)]; exact h.1
  · intro k h2 h3
    by_cases e : k = i
    · subst e; rw [y_upd1]; omega
    · rw [y_upd2 e]; exact h.2 k h2 h3
