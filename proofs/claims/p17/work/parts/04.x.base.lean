/-! FUNCTIONS INTO OPTION: none where an index is out of bounds; what a function says, the code does -/
def x_gd (i : Int32) (n : Nat) : Bool := !(decide (i < 0) || decide (n ≤ i.toNatClampNeg))
theorem x_gdin {i : Int32} {n : Nat} (h : x_gd i n = true) : vp_in i n := x_lit i n (by
  unfold x_gd at h
  simpa using h)
def x_01 (v : Int32) : Bool := v == 0 || v == 1
theorem x_01n {v : Int32} (h : x_01 v = true) : x_nb v := by
  unfold x_01 at h
  simp only [Bool.or_eq_true, beq_iff_eq] at h
  rcases h with h | h
  · subst h; rfl
  · subst h; rfl
theorem x_gu {α : Type} {c : Prop} [Decidable c] {t : Option α} {R : α} (h : (if c then t else none) = some R) : c ∧ t = some R := by
  by_cases hc : c
  · rw [if_pos hc] at h; exact ⟨hc, h⟩
  · rw [if_neg hc] at h; cases h
theorem x_ip {α : Type} {c : Prop} [Decidable c] {a b : Option α} {R : α} (hc : c) (h : (if c then a else b) = some R) : a = some R := by rw [if_pos hc] at h; exact h
theorem x_in {α : Type} {c : Prop} [Decidable c] {a b : Option α} {R : α} (hc : ¬ c) (h : (if c then a else b) = some R) : b = some R := by rw [if_neg hc] at h; exact h
theorem x_bi {α β : Type} {o : Option α} {k : α → Option β} {R : β} (h : (o >>= k) = some R) : ∃ r, o = some r ∧ k r = some R := by
  cases o with
  | none => cases h
  | some r => exact ⟨r, rfl, h⟩
theorem x_pc {α β : Type} (f : α → Option β) (motive : α → β → Prop) (h : ∀ z r, f z = some r → motive z r) : ∀ z r, f z = some r → motive z r := h
section XM
variable {p : Program} {l : Launch} {e : Env} {R : Room} {s : State} {m : MethodId} {args : Array Value} {below : List Frame} {meth : Method} {c : Code} {cells slots : Nat} {Q : State → Prop}
theorem x_wn {H : Heap} {locs : List Loc} {g : JFrame} (k : ∀ WW : Heap → List Loc → Nat → Nat → JFrame → Prop, (∀ (H : Heap) (locs : List Loc) (k n : Nat) (g : JFrame), W p l e R s m args below meth c H locs k n Q g ↔ WW H locs k n g) → W p l e R s m args below meth c H locs cells slots Q g) : W p l e R s m args below meth c H locs cells slots Q g :=
  k (fun H locs k n g => W p l e R s m args below meth c H locs k n Q g) (fun _ _ _ _ _ => Iff.rfl)
theorem x_herl {H : Heap} {locs : List Loc} {g : JFrame} (hH : locs = []) (k : W p l e R s m args below meth c H locs cells slots Q g) : W p l e R s m args below meth c H [] cells slots Q g := by
  rw [hH] at k
  exact k
end XM
/-! STATIC ARRAYS: what the statement says of them, and a start that knows it -/
def x_st0 : Nat → Int32 := fun k => ([1, 3, 2, 4] : List Int32).getD k 0
def x_st1 : Nat → Int32 := fun k => ([0, 5, 1, 1, 1, 1, 1, 1, 1, 3, 3, 2, 2, 2, 4, 4] : List Int32).getD k 0
def x_st2 : Nat → Int32 := fun k => ([111, 333, 222, 444, 111, 333, 222, 444, 111, 333, 222, 444, 111, 333, 222, 444, 111, 333, 222, 444, 11, 33, 22, 44, 111, 313, 111, 313, 111, 313, 111, 333, 111, 333, 111, 333, 0, 13, 12, 14, 31, 32, 34, 21, 23, 24, 41, 43, 42, 11, 11, 11, 331, 221, 221, 441, 441] : List Int32).getD k 0
def x_st3 : Nat → Int32 := fun k => ([1, 3, 2, 4] : List Int32).getD k 0
def x_st4 : Nat → Int32 := fun k => ([65534, 65535, 65530, 65531, 0, 65532, 65529, 65533] : List Int32).getD k 0
def x_st5 : Nat → Int32 := fun k => ([1, 1, 1, 2, 2, 2] : List Int32).getD k 0
def x_st6 : Nat → Int32 := fun k => ([0, 1, 2, 0, 1, 2] : List Int32).getD k 0
def x_sts : List (String × String × Nat × (Nat → Int32)) := [("FlowJudgeModel", "KINDS", 4, x_st0), ("FlowJudge$Steps", "CONSTANTS", 16, x_st1), ("FlowJudge$Steps", "SUMS", 57, x_st2), ("FlowJudge$Steps", "KINDS", 4, x_st3), ("FlowJudge$Steps", "ELEMENTS", 8, x_st4), ("FlowJudge$Steps", "COPIES", 6, x_st5), ("FlowJudge$Steps", "UNDER", 6, x_st6)]
def x_Sx (base : Nat) (U : State) : Prop := ∀ z ∈ x_sts, ∃ b : Nat, va_Z z.1 z.2.1 "[I" (.ref b) (x_new base) U U.heap ∧ va_X b z.2.2.1 z.2.2.2 U U.heap ∧ b < base
theorem x_Xmv {b L : Nat} {xs : Nat → Int32} {s U : State} {H H1 : Heap} (hvm : s.vm.Alike U.vm) (hh : H1[b]? = H[b]?) (h : va_X b L xs s H) : va_X b L xs U H1 := by
  exact (h.moved hvm).kept hh
theorem x_Sx.at {base : Nat} {s U : State} (hW : s.WarmedH U.vm) (hbz : base ≤ s.heap.size) (hk : ∀ q : Nat, q < s.heap.size → ¬ x_new base q → U.heap[q]? = s.heap[q]?) (h : x_Sx base s) : x_Sx base U := by
  intro z hz
  obtain ⟨b, h1, h2, h3⟩ := h z hz
  exact ⟨b, (va_Z.moved hW.alike h1).kept hk, x_Xmv hW.alike (hk b (Nat.lt_of_lt_of_le h3 hbz) (Nat.not_le.mpr h3)) h2, h3⟩
theorem x_Sx.same {base : Nat} {u U : State} (hv : u.vm = U.vm) (hh : u.heap = U.heap) (h : x_Sx base u) : x_Sx base U := by
  intro z hz
  obtain ⟨b, h1, h2, h3⟩ := h z hz
  have ha : u.vm.Alike U.vm := by rw [hv]; exact Vm.Alike.refl _
  refine ⟨b, ?_, ?_, h3⟩
  · have := va_Z.moved ha h1
    rw [hh] at this
    exact this
  · exact x_Xmv ha (by rw [hh]) h2
def x_PreT (D : va_G) (tys : List (ClassId × FieldType)) (ws : va_W) (base sz : Nat) (U : State) : Prop := x_PreD D tys ws sz U ∧ va_D (x_new base) ws ∧ base ≤ sz ∧ x_Sx base U
theorem x_blT {D : va_G} {tys : List (ClassId × FieldType)} {ws : va_W} {base sz : Nat} {av : List Value} : FrameBlind (va_Pc av (x_PreT D tys ws base sz)) := by
  intro a U g mk q
  obtain ⟨q0, ⟨⟨q1, qP, qK, qN⟩, qD⟩, qDb, qb, qG⟩ := q
  exact ⟨q0, ⟨⟨q1, qP, va_K.moved (u := U) (U := U.calling g mk a) (Vm.Alike.refl U.vm) qK, x_N.same rfl qN⟩, qD⟩, qDb, qb, x_Sx.same rfl rfl qG⟩
theorem x_atT {s : State} {H : Heap} {D : va_G} {tys : List (ClassId × FieldType)} {ws : va_W} {base : Nat} {av : List Value} (hT : x_Sx base s) (hN : x_N s) (hK : va_K D vwCl tys s) (hP : va_P D vwCl ws H) (hDb : va_D (x_new base) ws) (hb0 : base ≤ s.heap.size) (hb : base ≤ H.size) (hk : ∀ q : Nat, q < s.heap.size → ¬ x_new base q → H[q]? = s.heap[q]?) :
    ∀ U : State, U.heap = H → s.WarmedH U.vm → va_Pc av (x_PreT D tys ws base H.size) av.toArray U :=
  fun U hU hW => ⟨rfl, ⟨⟨by rw [hU], by rw [hU]; exact hP, va_K.moved hW.alike hK, hN.warm hW⟩, hDb.weaken (fun _ _ _ _ => trivial)⟩, hDb, hb, hT.at hW hb0 (fun q h1 h2 => by rw [hU]; exact hk q h1 h2)⟩
theorem x_pVT {s : State} {H : Heap} {D : va_G} {tys : List (ClassId × FieldType)} {ws : va_W} {base b ci q0 : Nat} {q : vw_C} {fs As : List Value} (hT : x_Sx base s) (hN : x_N s) (hK : va_K D vwCl tys s) (hP : va_P D vwCl ws H) (hDb : va_D (x_new base) ws) (hb0 : base ≤ s.heap.size) (hS1 : s.heap.size ≤ H.size) (hk : ∀ q : Nat, q < s.heap.size → ¬ x_new base q → H[q]? = s.heap[q]?)
    (hc : vwCl[ci]? = some q) (he : ws[q0]? = some (b, .inr (ci, fs))) : PreV s H q.1 b (va_Pc (.ref b :: As) (x_PreT D tys ws base H.size)) As := ⟨x_blT, va_recv hK hP hc he, x_atT hT hN hK hP hDb hb0 (Nat.le_trans hb0 hS1) hk⟩
