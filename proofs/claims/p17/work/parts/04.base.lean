/-! WORDS FOR ALL CONTRACTS OF MINE: one list of array classes; what is new; a start that is read; calls that only read. -/
abbrev x_T (cyI cyZ cyJ : ClassId) : List (ClassId × FieldType) := [(cyI, .int), (cyZ, .boolean), (cyJ, .long)]
/-- only what is new is written -/
abbrev x_new (sz : Nat) : Nat → Prop := fun q => sz ≤ q
/-- the links to private fields of the nest -/
def x_nw : List (String × Nat × String × String × String) := [("FlowJudge", 59, "FlowJudge$Types", "isInterface", "[Z"), ("FlowJudge", 70, "FlowJudge$Types", "count", "I"), ("FlowJudge", 88, "FlowJudge$Members", "fieldCount", "I"), ("FlowJudge", 104, "FlowJudge$Members", "shapeCount", "I"), ("FlowJudge", 133, "FlowJudge$Code", "argumentCount", "I"), ("FlowJudge", 145, "FlowJudge$Code", "count", "I"), ("FlowJudge", 163, "FlowJudge$Code", "rowCount", "I"), ("FlowJudge", 175, "FlowJudge$Code", "locals", "I"), ("FlowJudge", 178, "FlowJudge$Code", "stack", "I"), ("FlowJudge", 206, "FlowJudge$Frames", "count", "I"), ("FlowJudge", 225, "FlowJudge$Frames", "locals", "I"), ("FlowJudge$Flow", 55, "FlowJudge$Places", "refused", "Z"), ("FlowJudge$Flow", 59, "FlowJudge$Frames", "ways", "[I"), ("FlowJudge$Flow", 65, "FlowJudge$Frames", "targets", "[I"), ("FlowJudge$Flow", 72, "FlowJudge$Code", "count", "I"), ("FlowJudge$Flow", 78, "FlowJudge$Code", "rowCount", "I"), ("FlowJudge$Flow", 88, "FlowJudge$Places", "moved", "Z"), ("FlowJudge$Flow", 98, "FlowJudge$Places", "isFinal", "Z"), ("FlowJudge$Flow", 101, "FlowJudge$Places", "doubtful", "Z"), ("FlowJudge$Flow", 104, "FlowJudge$Code", "rows", "[I"), ("FlowJudge$Flow", 107, "FlowJudge$Places", "locals", "I"), ("FlowJudge$Flow", 110, "FlowJudge$Places", "end", "I"), ("FlowJudge$Flow", 118, "FlowJudge$Places", "top", "I"), ("FlowJudge$Flow", 121, "FlowJudge$Places", "cells", "[I"), ("FlowJudge$Flow", 144, "FlowJudge$Code", "ops", "[I"), ("FlowJudge$Flow", 147, "FlowJudge$Code", "as", "[I"), ("FlowJudge$Flow", 159, "FlowJudge$Code", "firstSwitched", "[I"), ("FlowJudge$Flow", 162, "FlowJudge$Code", "upToSwitched", "[I"), ("FlowJudge$Flow", 165, "FlowJudge$Code", "switched", "[I"), ("FlowJudge$Flow", 172, "FlowJudge$Code", "isTarget", "[Z"), ("FlowJudge$Flow", 176, "FlowJudge$Contexts", "lengths", "[I"), ("FlowJudge$Frames", 79, "FlowJudge$Places", "top", "I"), ("FlowJudge$Frames", 84, "FlowJudge$Places", "made", "I"), ("FlowJudge$Frames", 86, "FlowJudge$Places", "cells", "[I"), ("FlowJudge$Frames", 123, "FlowJudge$Contexts", "lengths", "[I"), ("FlowJudge$Places", 19, "FlowJudge$Code", "locals", "I"), ("FlowJudge$Places", 26, "FlowJudge$Code", "stack", "I"), ("FlowJudge$Places", 48, "FlowJudge$Code", "how", "I"), ("FlowJudge$Places", 51, "FlowJudge$Code", "owner", "I"), ("FlowJudge$Places", 64, "FlowJudge$Code", "argumentCount", "I"), ("FlowJudge$Places", 67, "FlowJudge$Code", "arguments", "[I"), ("FlowJudge$Places", 73, "FlowJudge$Frames", "heights", "[I"), ("FlowJudge$Places", 78, "FlowJudge$Frames", "made", "[I"), ("FlowJudge$Places", 83, "FlowJudge$Frames", "words", "[I"), ("FlowJudge$Places", 86, "FlowJudge$Frames", "size", "I"), ("FlowJudge$Steps", 27, "FlowJudge$Code", "ops", "[I"), ("FlowJudge$Steps", 33, "FlowJudge$Code", "as", "[I"), ("FlowJudge$Steps", 105, "FlowJudge$Places", "refused", "Z"), ("FlowJudge$Steps", 160, "FlowJudge$Code", "result", "I"), ("FlowJudge$Steps", 164, "FlowJudge$Code", "how", "I"), ("FlowJudge$Steps", 167, "FlowJudge$Places", "made", "I"), ("FlowJudge$Steps", 173, "FlowJudge$Members", "fieldClasses", "[I"), ("FlowJudge$Steps", 178, "FlowJudge$Members", "fieldTypes", "[I"), ("FlowJudge$Steps", 181, "FlowJudge$Code", "owner", "I"), ("FlowJudge$Steps", 188, "FlowJudge$Places", "top", "I"), ("FlowJudge$Steps", 191, "FlowJudge$Places", "locals", "I"), ("FlowJudge$Steps", 194, "FlowJudge$Places", "cells", "[I"), ("FlowJudge$Steps", 197, "FlowJudge$Members", "takenCounts", "[I"), ("FlowJudge$Steps", 204, "FlowJudge$Members", "shapeClasses", "[I"), ("FlowJudge$Steps", 207, "FlowJudge$Members", "isConstructor", "[Z"), ("FlowJudge$Steps", 218, "FlowJudge$Members", "shapeResults", "[I"), ("FlowJudge$Steps", 221, "FlowJudge$Code", "count", "I"), ("FlowJudge$Steps", 227, "FlowJudge$Types", "above", "[I"), ("FlowJudge$Steps", 233, "FlowJudge$Code", "bs", "[I")]
/-- .. and to its private constructors -/
def x_nm : List (String × Nat × MethodName) := [(RX8, 18, yX4_init), (RX8, 25, yX0_init), (RX6, 101, yX5_isAnyReference)]
def x_N (U : State) : Prop := (∀ z ∈ x_nw, va_Nw (.fieldLinkNest z.1 z.2.1 z.2.2.1 z.2.2.2.1 z.2.2.2.2 RX8) U) ∧ ∀ z ∈ x_nm, va_Nw (.methodLinkNest z.1 z.2.1 z.2.2 RX8) U
theorem x_N.warm {s U : State} (hW : s.WarmedH U.vm) (h : x_N s) : x_N U := ⟨fun z hz => (h.1 z hz).warmF hW, fun z hz => (h.2 z hz).warmM hW⟩
theorem x_N.same {u U : State} (hv : u.vm = U.vm) (h : x_N u) : x_N U := ⟨fun z hz => va_Nw.same rfl hv (h.1 z hz), fun z hz => va_Nw.same rfl hv (h.2 z hz)⟩
/-- the start: the heap's size and the world -/
def x_Pre (D : va_G) (tys : List (ClassId × FieldType)) (ws : va_W) (sz : Nat) (U : State) : Prop := U.heap.size = sz ∧ va_P D vwCl ws U.heap ∧ va_K D vwCl tys U ∧ x_N U
/-- .. and the cells are apart -/
def x_PreD (D : va_G) (tys : List (ClassId × FieldType)) (ws : va_W) (sz : Nat) (U : State) : Prop := x_Pre D tys ws sz U ∧ va_D (fun _ => True) ws
theorem x_bl {D : va_G} {tys : List (ClassId × FieldType)} {ws : va_W} {sz : Nat} {av : List Value} : FrameBlind (va_Pc av (x_Pre D tys ws sz)) := by
  intro a U g mk q
  obtain ⟨q0, q1, qP, qK, qN⟩ := q
  exact ⟨q0, q1, qP, va_K.moved (u := U) (U := U.calling g mk a) (Vm.Alike.refl U.vm) qK, x_N.same rfl qN⟩
theorem x_blD {D : va_G} {tys : List (ClassId × FieldType)} {ws : va_W} {sz : Nat} {av : List Value} : FrameBlind (va_Pc av (x_PreD D tys ws sz)) := by
  intro a U g mk q
  obtain ⟨q0, ⟨q1, qP, qK, qN⟩, qD⟩ := q
  exact ⟨q0, ⟨q1, qP, va_K.moved (u := U) (U := U.calling g mk a) (Vm.Alike.refl U.vm) qK, x_N.same rfl qN⟩, qD⟩
theorem x_at {s : State} {H : Heap} {D : va_G} {tys : List (ClassId × FieldType)} {ws : va_W} {av : List Value} (hN : x_N s) (hK : va_K D vwCl tys s) (hP : va_P D vwCl ws H) : ∀ U : State, U.heap = H → s.WarmedH U.vm → va_Pc av (x_Pre D tys ws H.size) av.toArray U :=
  fun U hU hW => ⟨rfl, by rw [hU], by rw [hU]; exact hP, va_K.moved hW.alike hK, hN.warm hW⟩
theorem x_atD {s : State} {H : Heap} {D : va_G} {tys : List (ClassId × FieldType)} {ws : va_W} {av : List Value} {A : Nat → Prop} (hN : x_N s) (hK : va_K D vwCl tys s) (hP : va_P D vwCl ws H) (hD : va_D A ws) : ∀ U : State, U.heap = H → s.WarmedH U.vm → va_Pc av (x_PreD D tys ws H.size) av.toArray U :=
  fun U hU hW => ⟨rfl, ⟨by rw [hU], by rw [hU]; exact hP, va_K.moved hW.alike hK, hN.warm hW⟩, hD.weaken (fun _ _ _ _ => trivial)⟩
/-- a static callee's start -/
theorem x_pS {s : State} {H : Heap} {D : va_G} {tys : List (ClassId × FieldType)} {ws : va_W} {av : List Value} (hN : x_N s) (hK : va_K D vwCl tys s) (hP : va_P D vwCl ws H) : PreS s H (va_Pc av (x_Pre D tys ws H.size)) av := ⟨x_bl, x_at hN hK hP⟩
theorem x_pSD {s : State} {H : Heap} {D : va_G} {tys : List (ClassId × FieldType)} {ws : va_W} {av : List Value} {A : Nat → Prop} (hN : x_N s) (hK : va_K D vwCl tys s) (hP : va_P D vwCl ws H) (hD : va_D A ws) : PreS s H (va_Pc av (x_PreD D tys ws H.size)) av := ⟨x_blD, x_atD hN hK hP hD⟩
/-- an instance callee's start: the receiver is the cell at q0 -/
theorem x_pV {s : State} {H : Heap} {D : va_G} {tys : List (ClassId × FieldType)} {ws : va_W} {b ci q0 : Nat} {q : vw_C} {fs As : List Value} (hN : x_N s) (hK : va_K D vwCl tys s) (hP : va_P D vwCl ws H) (hc : vwCl[ci]? = some q) (he : ws[q0]? = some (b, .inr (ci, fs))) : PreV s H q.1 b (va_Pc (.ref b :: As) (x_Pre D tys ws H.size)) As :=
  ⟨x_bl, va_recv hK hP hc he, x_at hN hK hP⟩
theorem x_pVD {s : State} {H : Heap} {D : va_G} {tys : List (ClassId × FieldType)} {ws : va_W} {b ci q0 : Nat} {q : vw_C} {fs As : List Value} {A : Nat → Prop} (hN : x_N s) (hK : va_K D vwCl tys s) (hP : va_P D vwCl ws H) (hD : va_D A ws) (hc : vwCl[ci]? = some q) (he : ws[q0]? = some (b, .inr (ci, fs))) : PreV s H q.1 b (va_Pc (.ref b :: As) (x_PreD D tys ws H.size)) As :=
  ⟨x_blD, va_recv hK hP hc he, x_atD hN hK hP hD⟩
/-- behind a callee that only reads -/
theorem x_kp {H H1 : Heap} {D : va_G} {ws : va_W} (hP : va_P D vwCl ws H) (hk : ∀ q : Nat, q < H.size → ¬ x_new H.size q → H1[q]? = H[q]?) : va_P D vwCl ws H1 := by
  refine hP.kept (fun k q hq => ?_)
  have hlt := (hP k q hq).lt
  exact hk q.1 hlt (Nat.not_le.mpr hlt)
theorem x_nA {A : Nat → Prop} {H : Heap} : ∀ q, q < H.size → x_new H.size q → A q := fun _ h h2 => absurd h2 (Nat.not_le.mpr h)
theorem x_nf {A : Nat → Prop} {H0 H : Heap} {locs : List Loc} (hA : ∀ q, H0.size ≤ q → A q) (hS : va_S A H0 H locs) : ∀ q, x_new H.size q → A q := fun q h => hA q (Nat.le_trans hS.1 h)
/-- two array classes of one name are one -/
theorem x_one {D : va_G} {tys : List (ClassId × FieldType)} {s : State} {i j : Nat} {a b : ClassId} {ty : FieldType} (hK : va_K D vwCl tys s) (hi : tys[i]? = some (a, ty)) (hj : tys[j]? = some (b, ty)) (hp : ∀ C, ty ≠ .object C) : a = b := by
  have h1 := (hK.2 i _ hi).2
  have h2 := (hK.2 j _ hj).2
  cases ty with
  | object C => exact absurd rfl (hp C)
  | _ => exact Option.some.inj (h1.symm.trans h2)
theorem x_arr {args : Array Value} {s : State} {ty : FieldType} (h : (Cond.arrayClass ty).before args s = true) (hp : ∀ C, ty ≠ .object C) : ∃ cA, ArrOfT s cA ty ∧ va_RA s cA ty := by
  obtain ⟨c, k, comp, h1, h2, h3⟩ := Cond.arrayClass_spec h
  refine ⟨c, fun n z => ⟨fun _ h => (by cases h), k, h2, comp, h3⟩, ?_⟩
  cases ty with
  | object C => exact absurd rfl (hp C)
  | _ => exact h1
/-- 6.5 iushr -/
def x_ush (x y : Int32) : Int32 := (x.toUInt32 >>> (y.toUInt32 &&& Int32.toUInt32 31)).toInt32
/-- the arrays that are read on a new object: interfaces; what is above -/
def x_face : Nat → Int32 := fun k => if k = 2 ∨ k = 3 then 1 else 0
def x_up9 : Nat → Int32 := fun k => if k = 0 then -1 else 0
def x_z0 : Nat → Int32 := fun _ => 0
def x_zL : Nat → Int64 := fun _ => 0
theorem x_P0 {D : va_G} {cl : List vw_C} {H : Heap} : va_P D cl [] H := fun k q h => by simp at h
theorem x_D0 {A : Nat → Prop} : va_D A [] := ⟨fun i j p q h => by simp at h, fun k q h => by simp at h⟩
section XH
variable {p : Program} {l : Launch} {e : Env} {R : Room} {s : State} {m : MethodId} {args : Array Value} {below : List Frame} {meth : Method} {c : Code} {locs : List Loc} {cells slots : Nat} {Q : State → Prop}
theorem x_here {H : Heap} {g : JFrame} (hH : H = s.heap) (k : W p l e R s m args below meth c H locs cells slots Q g) : W p l e R s m args below meth c s.heap locs cells slots Q g := by
  rw [hH] at k
  exact k
/-- a place that is come to by several ways: proved once -/
theorem x_cut {E : Prop} {H : Heap} {g g2 : JFrame} (k : (E → W p l e R s m args below meth c H locs cells slots Q g2) → W p l e R s m args below meth c H locs cells slots Q g) (j : E → W p l e R s m args below meth c H locs cells slots Q g2) : W p l e R s m args below meth c H locs cells slots Q g := k j
end XH
/-! EXCEPTIONS OF THE CLASS'S OWN: what a method that throws them needs of the start -/
def x_strs : List (Nat × String) := [(65, "no CLASS that such a one can be below"), (76, "no more CLASSES"), (86, "no CLASS or no TYPE"), (91, "no more FIELDS"), (100, "no CLASS or no result"), (102, "no constructor is like this"), (107, "no more SHAPES"), (113, "no TYPE"), (119, "no SHAPE, or no more arguments"), (125, "no CLASS, no such how, or no result"), (127, "no such number of places"), (136, "no more arguments"), (143, "no such INSTRUCTION"), (146, "no more INSTRUCTIONS"), (151, "no INSTRUCTION"), (156, "no switch, or no more TARGETS"), (161, "no INSTRUCTION or no CLASS"), (166, "no more ROWS"), (210, "no such what"), (233, "no TYPE, or a primitive one")]
/-- what a throw's words have that no link is -/
abbrev x_ini (C : String) : MethodName := ⟨C, "<init>", "(Ljava/lang/String;)V"⟩
def x_B (U : State) : Prop := va_Nw (.castable "java/lang/IllegalArgumentException" "java/lang/IllegalArgumentException") U ∧ va_Nw (.castable "java/lang/IllegalStateException" "java/lang/IllegalStateException") U ∧ va_Nw (.declares (x_ini "java/lang/RuntimeException")) U ∧ va_Nw (.declares (x_ini "java/lang/Exception")) U ∧ va_Nw (.declares (x_ini "java/lang/Throwable")) U ∧ va_Nc "java/lang/IllegalStateException" "java/lang/IllegalArgumentException" U
theorem x_B.warm {s U : State} (hW : s.WarmedH U.vm) (h : x_B s) : x_B U := ⟨h.1.warmC hW, h.2.1.warmC hW, h.2.2.1.warmD hW, h.2.2.2.1.warmD hW, h.2.2.2.2.1.warmD hW, h.2.2.2.2.2.moved hW.alike⟩
theorem x_B.same {u U : State} (hv : u.vm = U.vm) (h : x_B u) : x_B U := ⟨va_Nw.same rfl hv h.1, va_Nw.same rfl hv h.2.1, va_Nw.same rfl hv h.2.2.1, va_Nw.same rfl hv h.2.2.2.1, va_Nw.same rfl hv h.2.2.2.2.1, h.2.2.2.2.2.moved (by rw [hv]; exact Vm.Alike.refl _)⟩
/-- the two statics that a Throwable's constructor reads, and the class's own texts -/
def x_G (base : Nat) (U : State) : Prop := vx_Zq Bundle.tN "UNASSIGNED_STACK" Bundle.steD (x_new base) U U.heap ∧ vx_Zq Bundle.tN "SUPPRESSED_SENTINEL" Bundle.listD (x_new base) U U.heap ∧ (∀ z ∈ x_strs, ∃ q, vk_R RX8 z.1 z.2 q U) ∧ x_B U
theorem x_G.at {base : Nat} {s U : State} (hW : s.WarmedH U.vm) (hk : ∀ q : Nat, q < s.heap.size → ¬ x_new base q → U.heap[q]? = s.heap[q]?) (h : x_G base s) : x_G base U :=
  ⟨(h.1.moved hW.alike).kept hk, (h.2.1.moved hW.alike).kept hk, fun z hz => by obtain ⟨q, hq⟩ := h.2.2.1 z hz; exact ⟨q, hq.warm hW⟩, h.2.2.2.warm hW⟩
theorem x_G.same {base : Nat} {u U : State} (hv : u.vm = U.vm) (hh : u.heap = U.heap) (h : x_G base u) : x_G base U :=
  ⟨by have := h.1.moved (U := U) (by rw [hv]; exact Vm.Alike.refl _); rw [hh] at this; exact this, by have := h.2.1.moved (U := U) (by rw [hv]; exact Vm.Alike.refl _); rw [hh] at this; exact this, fun z hz => by obtain ⟨q, hq⟩ := h.2.2.1 z hz; exact ⟨q, hq.same hv.symm⟩, h.2.2.2.same hv⟩
def x_PreX (D : va_G) (tys : List (ClassId × FieldType)) (ws : va_W) (base sz : Nat) (U : State) : Prop := x_PreD D tys ws sz U ∧ va_D (x_new base) ws ∧ base ≤ sz ∧ x_G base U
def x_thr (k : Int32) (E : String) : Prop := (k = 1 ∧ E = "java/lang/IllegalArgumentException") ∨ (k = 2 ∧ E = "java/lang/IllegalStateException")
theorem x_thr1 : x_thr 1 "java/lang/IllegalArgumentException" := Or.inl ⟨rfl, rfl⟩
theorem x_thr2 : x_thr 2 "java/lang/IllegalStateException" := Or.inr ⟨rfl, rfl⟩
theorem x_Ab {ws : va_W} {base sz : Nat} (hD : va_D (x_new base) ws) (hb : base ≤ sz) : ∀ q, va_A ws sz q → x_new base q := by
  intro q h
  rcases h with ⟨k, e, hk⟩ | h
  · exact hD.2 k _ hk
  · exact Nat.le_trans hb h
theorem x_mv {A : Nat → Prop} {s t : State} {H : Heap} {locs : List Loc} (hS : va_S A s.heap H locs) (h1 : H.size ≤ t.heap.size) (h2 : ∀ q : Nat, q < H.size → t.heap[q]? = H[q]?) : va_F A s t :=
  ⟨Nat.le_trans hS.1 h1, fun q hq hA => by rw [h2 q (Nat.lt_of_lt_of_le hq hS.1)]; exact hS.2.1 q hq hA⟩
theorem x_at1 {args : Array Value} {s : State} (hB : x_B s) (h : ∀ w ∈ (vx_atS RX8 67 "java/lang/IllegalArgumentException" ["java/lang/RuntimeException", "java/lang/Exception"]).filter goodWord, w.before args s = true) : ∀ w ∈ vx_atS RX8 67 "java/lang/IllegalArgumentException" ["java/lang/RuntimeException", "java/lang/Exception"], w.before args s = true :=
  vx_hat (B := [.castable "java/lang/IllegalArgumentException" "java/lang/IllegalArgumentException", .declares (x_ini "java/lang/RuntimeException"), .declares (x_ini "java/lang/Exception"), .declares (x_ini "java/lang/Throwable")]) h (by decide +kernel) (vx_c (hB.1.use rfl) (vx_c (hB.2.2.1.use rfl) (vx_c (hB.2.2.2.1.use rfl) (vx_c (hB.2.2.2.2.1.use rfl) vx_n))))
theorem x_at2 {args : Array Value} {s : State} (hB : x_B s) (h : ∀ w ∈ (vx_atS RX8 78 "java/lang/IllegalStateException" ["java/lang/RuntimeException", "java/lang/Exception"]).filter goodWord, w.before args s = true) : ∀ w ∈ vx_atS RX8 78 "java/lang/IllegalStateException" ["java/lang/RuntimeException", "java/lang/Exception"], w.before args s = true :=
  vx_hat (B := [.castable "java/lang/IllegalStateException" "java/lang/IllegalStateException", .declares (x_ini "java/lang/RuntimeException"), .declares (x_ini "java/lang/Exception"), .declares (x_ini "java/lang/Throwable")]) h (by decide +kernel) (vx_c (hB.2.1.use rfl) (vx_c (hB.2.2.1.use rfl) (vx_c (hB.2.2.2.1.use rfl) (vx_c (hB.2.2.2.2.1.use rfl) vx_n))))
/-! NUMBERS -/
theorem x_lit (i : Int32) (n : Nat) (h : (decide (i < 0) || decide (n ≤ i.toNatClampNeg)) = false) : vp_in i n := by
  intro q
  rcases q with q | q
  · simp [q] at h
  · simp [q] at h
theorem x_bd {x : Int32} {n : Nat} (h0 : 0 ≤ x.toInt) (h : x.toInt < n) : vp_in x n := vp_in_iff.mpr ⟨h0, h⟩
theorem x_in4 {x : Int32} (h0 : 0 ≤ x) (h : x < 4) : vp_in x 200 := by
  rw [Int32.le_iff_toInt_le] at h0
  rw [Int32.lt_iff_toInt_lt] at h
  exact x_bd (by simpa using h0) (by have : x.toInt < 4 := by simpa using h
                                     omega)
theorem x_in4n {x : Int32} (h0 : 0 ≤ x) (h : ¬ 4 ≤ x) : vp_in x 200 := x_in4 h0 (by
  rw [Int32.le_iff_toInt_le] at h
  rw [Int32.lt_iff_toInt_lt]
  omega)
theorem x_mk (x : Int32) : ∃ j : Nat, j < 65536 ∧ x &&& 65535 = nI j := pk_andE x 16 (by decide)
theorem x_mpos (x : Int32) : 0 ≤ x &&& 65535 := by
  obtain ⟨j, hj, e⟩ := x_mk x
  rw [e]
  exact nI_pos' (by omega)
theorem x_m0 {x : Int32} (h : x &&& 65535 ≤ 0) : x &&& 65535 = 0 := by
  obtain ⟨j, hj, e⟩ := x_mk x
  rw [e] at h ⊢
  rw [← nI_0, nI_leI (by omega) (by omega)] at h
  have : j = 0 := by omega
  rw [this]; rfl
theorem x_faceE : upd (upd x_z0 (Int32.toNatClampNeg 2) (vp_nar .boolean 1)) (Int32.toNatClampNeg 3) (vp_nar .boolean 1) = x_face := by
  funext k
  have e2 : Int32.toNatClampNeg 2 = 2 := by decide
  have e3 : Int32.toNatClampNeg 3 = 3 := by decide
  have e1 : vp_nar .boolean 1 = 1 := rfl
  rw [e2, e3, e1]
  by_cases h3 : k = 3
  · subst h3; rfl
  · by_cases h2 : k = 2
    · subst h2; rfl
    · rw [pk_un h3, pk_un h2]
      simp [x_face, x_z0, h2, h3]
theorem x_up9E : upd x_z0 (Int32.toNatClampNeg 0) (-1) = x_up9 := by
  funext k
  have e0 : Int32.toNatClampNeg 0 = 0 := by decide
  rw [e0]
  by_cases h : k = 0
  · subst h; rfl
  · rw [pk_un h]
    simp [x_up9, x_z0, h]
theorem x_ge0 {x : Int32} (h : ¬ x < 0) : 0 ≤ x := Int32.not_lt.mp h
theorem x_nlt {x : Int32} (h : 0 ≤ x) : ¬ x < 0 := Int32.not_lt.mpr h
theorem x_in4L {x : Int32} (h0 : 0 ≤ x) (h : x < 4) : vp_in x 200 := x_in4 h0 h
theorem x_up9n {x : Int32} (h : vp_in x 200) (h0 : ¬ x = 0) : x_up9 (Int32.toNatClampNeg x) = 0 := by
  obtain ⟨j, hj, e⟩ := vp_in_of h (by decide)
  subst e
  rw [nI_clamp (by omega)]
  unfold x_up9
  rw [if_neg]
  intro q
  rw [q] at h0
  exact h0 rfl
/-- a boolean is 0 or 1 -/
abbrev x_nb (x : Int32) : Prop := narrow .boolean (.int x) = .int x
theorem x_ite {q : Prop} [Decidable q] {a b : Int32} (ha : x_nb a) (hb : x_nb b) : x_nb (if q then a else b) := by
  by_cases h : q
  · rw [if_pos h]; exact ha
  · rw [if_neg h]; exact hb
theorem x_out {g : Nat → Int64} {x : Int64} : vp_updL g (Int32.toNatClampNeg 0) x 0 = x := by
  rw [show Int32.toNatClampNeg 0 = 0 by decide]
  exact pk_uLs
theorem x_leaf {a b : Int32} (h : ¬ a = 2) : ¬ (a, b).1 = 2 := h
theorem x_ite2 {q : Prop} [Decidable q] {a b : Int32 × Int32} (ha : ¬ a.1 = 2) (hb : ¬ b.1 = 2) : ¬ (if q then a else b).1 = 2 := by
  by_cases h : q
  · rw [if_pos h]; exact ha
  · rw [if_neg h]; exact hb
/-- the start of a callee that may throw -/
theorem x_blX {D : va_G} {tys : List (ClassId × FieldType)} {ws : va_W} {base sz : Nat} {av : List Value} : FrameBlind (va_Pc av (x_PreX D tys ws base sz)) := by
  intro a U g mk q
  obtain ⟨q0, ⟨⟨q1, qP, qK, qN⟩, qD⟩, qDb, qb, qG⟩ := q
  exact ⟨q0, ⟨⟨q1, qP, va_K.moved (u := U) (U := U.calling g mk a) (Vm.Alike.refl U.vm) qK, x_N.same rfl qN⟩, qD⟩, qDb, qb, x_G.same rfl rfl qG⟩
theorem x_atX {s : State} {H : Heap} {D : va_G} {tys : List (ClassId × FieldType)} {ws : va_W} {base : Nat} {av : List Value} (hG : x_G base s) (hN : x_N s) (hK : va_K D vwCl tys s) (hP : va_P D vwCl ws H) (hDb : va_D (x_new base) ws) (hb : base ≤ H.size) (hk : ∀ q : Nat, q < s.heap.size → ¬ x_new base q → H[q]? = s.heap[q]?) :
    ∀ U : State, U.heap = H → s.WarmedH U.vm → va_Pc av (x_PreX D tys ws base H.size) av.toArray U :=
  fun U hU hW => ⟨rfl, ⟨⟨by rw [hU], by rw [hU]; exact hP, va_K.moved hW.alike hK, hN.warm hW⟩, hDb.weaken (fun _ _ _ _ => trivial)⟩, hDb, hb, hG.at hW (fun q h1 h2 => by rw [hU]; exact hk q h1 h2)⟩
theorem x_pVX {s : State} {H : Heap} {D : va_G} {tys : List (ClassId × FieldType)} {ws : va_W} {base b ci q0 : Nat} {q : vw_C} {fs As : List Value} (hG : x_G base s) (hN : x_N s) (hK : va_K D vwCl tys s) (hP : va_P D vwCl ws H) (hDb : va_D (x_new base) ws) (hb : base ≤ H.size) (hk : ∀ q : Nat, q < s.heap.size → ¬ x_new base q → H[q]? = s.heap[q]?)
    (hc : vwCl[ci]? = some q) (he : ws[q0]? = some (b, .inr (ci, fs))) : PreV s H q.1 b (va_Pc (.ref b :: As) (x_PreX D tys ws base H.size)) As := ⟨x_blX, va_recv hK hP hc he, x_atX hG hN hK hP hDb hb hk⟩
theorem x_pSX {s : State} {H : Heap} {D : va_G} {tys : List (ClassId × FieldType)} {ws : va_W} {base : Nat} {av : List Value} (hG : x_G base s) (hN : x_N s) (hK : va_K D vwCl tys s) (hP : va_P D vwCl ws H) (hDb : va_D (x_new base) ws) (hb : base ≤ H.size) (hk : ∀ q : Nat, q < s.heap.size → ¬ x_new base q → H[q]? = s.heap[q]?) : PreS s H (va_Pc av (x_PreX D tys ws base H.size)) av := ⟨x_blX, x_atX hG hN hK hP hDb hb hk⟩
