/-! FUNCTIONS INTO OPTION: none where an index is out of bounds; what a function says, the code does -/
def x_gd (i : Int32) (n : Nat) : Bool := !(decide (i < 0) || decide (n ≤ i.toNatClampNeg))
theorem x_gdin {i : Int32} {n : Nat} (h : x_gd i n = true) : vp_in i n := x_lit i n (by
  unfold x_gd at h
  simpa using h)
def x_01 (v : Int32) : Bool := v == 0 || v == 1
theorem x_01n {v : Int32} (h : x_01 v = true) : x_nb v := by
  unfold x_01 at h
  simp only [Bool.or_eq_true, beq_iff_eq] at h
  rcases h with h | h
  · subst h; rfl
  · subst h; rfl
theorem x_gu {α : Type} {c : Prop} [Decidable c] {t : Option α} {R : α} (h : (if c then t else none) = some R) : c ∧ t = some R := by
  by_cases hc : c
  · rw [if_pos hc] at h; exact ⟨hc, h⟩
  · rw [if_neg hc] at h; cases h
theorem x_ip {α : Type} {c : Prop} [Decidable c] {a b : Option α} {R : α} (hc : c) (h : (if c then a else b) = some R) : a = some R := by rw [if_pos hc] at h; exact h
theorem x_in {α : Type} {c : Prop} [Decidable c] {a b : Option α} {R : α} (hc : ¬ c) (h : (if c then a else b) = some R) : b = some R := by rw [if_neg hc] at h; exact h
theorem x_bi {α β : Type} {o : Option α} {k : α → Option β} {R : β} (h : (o >>= k) = some R) : ∃ r, o = some r ∧ k r = some R := by
  cases o with
  | none => cases h
  | some r => exact ⟨r, rfl, h⟩
section XM
variable {p : Program} {l : Launch} {e : Env} {R : Room} {s : State} {m : MethodId} {args : Array Value} {below : List Frame} {meth : Method} {c : Code} {cells slots : Nat} {Q : State → Prop}
theorem x_wn {H : Heap} {locs : List Loc} {g : JFrame} (k : ∀ WW : Heap → List Loc → Nat → Nat → JFrame → Prop, (∀ (H : Heap) (locs : List Loc) (k n : Nat) (g : JFrame), W p l e R s m args below meth c H locs k n Q g ↔ WW H locs k n g) → W p l e R s m args below meth c H locs cells slots Q g) : W p l e R s m args below meth c H locs cells slots Q g :=
  k (fun H locs k n g => W p l e R s m args below meth c H locs k n Q g) (fun _ _ _ _ _ => Iff.rfl)
theorem x_herl {H : Heap} {locs : List Loc} {g : JFrame} (hH : locs = []) (k : W p l e R s m args below meth c H locs cells slots Q g) : W p l e R s m args below meth c H [] cells slots Q g := by
  rw [hH] at k
  exact k
end XM
