theorem x_memp {ws big : List Cond} (ps : List Nat) (hp : ws = ps.filterMap (fun i => big[i]?)) : ∀ w ∈ ws, w ∈ big := by
  intro w hw
  rw [hp] at hw
  obtain ⟨i, _, h⟩ := List.mem_filterMap.mp hw
  exact List.mem_of_getElem? h
theorem x_eqT {A : Array Value} {s : State} {t : Term} {z : Int32} (h : (Cond.eq t (.int z)).before A s = true) : t.eval A s none [] s = some (.int z) := by
  cases hv : t.eval A s none [] s with
  | none => simp [Cond.before, Cond.holds, Cond.value, hv] at h
  | some w =>
    have hz : (Term.int z).eval A s none [] s = some (.int z) := rfl
    simp only [Cond.before, Cond.holds, Cond.value, hv, hz] at h
    cases w <;> simp_all
theorem x_lenT {A : Array Value} {s : State} {t : Term} {v : Value} (h : (Term.length t).eval A s none [] s = some v) : ∃ b cell, t.eval A s none [] s = some (.ref b) ∧ s.arrayAt? b = some cell ∧ cell.slots.size < 2 ^ 31 ∧ v = .int cell.slots.size.toInt32 := by
  simp only [Term.eval, Option.bind_eq_bind] at h
  cases ht : t.eval A s none [] s with
  | none => simp [ht] at h
  | some x =>
    cases x <;> simp only [ht, Option.bind_some] at h <;> try cases h
    rename_i b
    cases ha : s.arrayAt? b with
    | none => simp [ha] at h
    | some cell =>
      simp only [ha, Option.bind_some] at h
      by_cases hs : cell.slots.size < 2 ^ 31
      · rw [if_pos hs] at h; cases h; exact ⟨b, cell, rfl, ha, hs, rfl⟩
      · rw [if_neg hs] at h; cases h
theorem x_elT {A : Array Value} {s : State} {t : Term} {k : Int32} {v : Value} {b : Addr} {cell : Cell} (ht : t.eval A s none [] s = some (.ref b)) (ha : s.arrayAt? b = some cell) (hk : ¬ k < 0) (h : (Term.elem t (.int k)).eval A s none [] s = some v) : cell.slots[k.toNatClampNeg]? = some v := by
  have hi : (Term.int k).eval A s none [] s = some (.int k) := rfl
  simp only [Term.eval, Option.bind_eq_bind, ht, ha, Option.bind_some] at h
  rw [if_neg hk] at h
  exact h
theorem x_statX {A : Array Value} {s : State} {t : Term} {L : Nat} {z : Int32} {xs : Nat → Int32} (hz : z.toInt = L) (hL : L < 1000) (hl : (Cond.eq (.length t) (.int z)).before A s = true) (harr : (Cond.arrayOf t .int).before A s = true) (he : ∀ k : Nat, k < L → (Cond.eq (.elem t (.int (Int32.ofNat k))) (.int (xs k))).before A s = true) : ∃ b, t.eval A s none [] s = some (.ref b) ∧ va_X b L xs s s.heap ∧ b < s.heap.size := by
  obtain ⟨b, cell, hb, ha, hs, hv⟩ := x_lenT (x_eqT hl)
  obtain ⟨hcb, hkn, -, -⟩ := State.arrayAt?_spec ha
  have hof := Cond.arrayOf_spec harr hb hcb
  have hsz : cell.slots.size = L := by
    have e : z = Int32.ofNat cell.slots.size := by
      have := hv
      injection this
    have e2 : (Int32.ofNat cell.slots.size).toInt = cell.slots.size := Int32.toInt_ofNat_of_lt hs
    rw [← e, hz] at e2
    omega
  refine ⟨b, hb, ⟨cell, hcb, hof.1, hof.2, hsz, fun j hj => ?_⟩, (Array.getElem?_eq_some_iff.mp hcb).1⟩
  have hj2 : (Int32.ofNat j).toInt = j := Int32.toInt_ofNat_of_lt (by omega)
  have hneg : ¬ Int32.ofNat j < 0 := by
    rw [Int32.lt_iff_toInt_lt, hj2]
    have : (0 : Int32).toInt = 0 := rfl
    omega
  have h9 := x_elT hb ha hneg (x_eqT (he j hj))
  have hc : Int32.toNatClampNeg (Int32.ofNat j) = j := by
    have := @y_cl (Int32.ofNat j) (by omega)
    omega
  rw [hc] at h9
  exact h9
set_option maxRecDepth 20000 in
theorem x_stat0 {A : Array Value} {s : State} (hts : ∀ w ∈ lw_tbl, w.before A s = true) (hgv : (Jvm.Cond.and given_1 narrow_1).before A s = true) : ∃ b : Nat, va_Z "FlowJudgeModel" "KINDS" "[I" (.ref b) (x_new s.heap.size) s s.heap ∧ va_X b 4 x_st0 s s.heap ∧ b < s.heap.size := by
  have hng : ∀ a : Nat, a < s.heap.size → ¬ x_new s.heap.size a := fun a ha h => absurd h (Nat.not_le.mpr ha)
  have hs := flat_of_before _ hgv
  have hm := x_memp (ws := Cond.eq (.length (Term.static "FlowJudgeModel" "KINDS" "[I")) (.int 4) :: Cond.arrayOf (Term.static "FlowJudgeModel" "KINDS" "[I") .int :: (List.range 4).map (fun k => Cond.eq (.elem (Term.static "FlowJudgeModel" "KINDS" "[I") (.int (Int32.ofNat k))) (.int (x_st0 k)))) (big := flatC (Jvm.Cond.and given_1 narrow_1)) [123, 122, 124, 125, 126, 127] rfl
  obtain ⟨b, hb, hX, hlt⟩ := x_statX (t := (Term.static "FlowJudgeModel" "KINDS" "[I")) (L := 4) (z := 4) (xs := x_st0) rfl (by decide) (hs _ (hm _ List.mem_cons_self)) (hs _ (hm _ (List.mem_cons_of_mem _ List.mem_cons_self))) (fun k hk => hs _ (hm _ (List.mem_cons_of_mem _ (List.mem_cons_of_mem _ (List.mem_map.mpr ⟨k, List.mem_range.mpr hk, rfl⟩)))))
  exact ⟨b, va_Zref (hts (.laysStatic "FlowJudgeModel" "KINDS" "[I") (by decide +kernel)) (hts (.initialized "FlowJudgeModel") (by decide +kernel)) hb hng, hX, hlt⟩
set_option maxRecDepth 20000 in
theorem x_stat1 {A : Array Value} {s : State} (hts : ∀ w ∈ lw_tbl, w.before A s = true) (hgv : (Jvm.Cond.and given_1 narrow_1).before A s = true) : ∃ b : Nat, va_Z "FlowJudge$Steps" "CONSTANTS" "[I" (.ref b) (x_new s.heap.size) s s.heap ∧ va_X b 16 x_st1 s s.heap ∧ b < s.heap.size := by
  have hng : ∀ a : Nat, a < s.heap.size → ¬ x_new s.heap.size a := fun a ha h => absurd h (Nat.not_le.mpr ha)
  have hs := flat_of_before _ hgv
  have hm := x_memp (ws := Cond.eq (.length (Term.static "FlowJudge$Steps" "CONSTANTS" "[I")) (.int 16) :: Cond.arrayOf (Term.static "FlowJudge$Steps" "CONSTANTS" "[I") .int :: (List.range 16).map (fun k => Cond.eq (.elem (Term.static "FlowJudge$Steps" "CONSTANTS" "[I") (.int (Int32.ofNat k))) (.int (x_st1 k)))) (big := flatC (Jvm.Cond.and given_1 narrow_1)) [6, 5, 7, 8, 9, 10, 11, 12, 13, 14, 15, 16, 17, 18, 19, 20, 21, 22] rfl
  obtain ⟨b, hb, hX, hlt⟩ := x_statX (t := (Term.static "FlowJudge$Steps" "CONSTANTS" "[I")) (L := 16) (z := 16) (xs := x_st1) rfl (by decide) (hs _ (hm _ List.mem_cons_self)) (hs _ (hm _ (List.mem_cons_of_mem _ List.mem_cons_self))) (fun k hk => hs _ (hm _ (List.mem_cons_of_mem _ (List.mem_cons_of_mem _ (List.mem_map.mpr ⟨k, List.mem_range.mpr hk, rfl⟩)))))
  exact ⟨b, va_Zref (hts (.laysStatic "FlowJudge$Steps" "CONSTANTS" "[I") (by decide +kernel)) (hts (.initialized "FlowJudge$Steps") (by decide +kernel)) hb hng, hX, hlt⟩
set_option maxRecDepth 20000 in
theorem x_stat2 {A : Array Value} {s : State} (hts : ∀ w ∈ lw_tbl, w.before A s = true) (hgv : (Jvm.Cond.and given_1 narrow_1).before A s = true) : ∃ b : Nat, va_Z "FlowJudge$Steps" "SUMS" "[I" (.ref b) (x_new s.heap.size) s s.heap ∧ va_X b 57 x_st2 s s.heap ∧ b < s.heap.size := by
  have hng : ∀ a : Nat, a < s.heap.size → ¬ x_new s.heap.size a := fun a ha h => absurd h (Nat.not_le.mpr ha)
  have hs := flat_of_before _ hgv
  have hm := x_memp (ws := Cond.eq (.length (Term.static "FlowJudge$Steps" "SUMS" "[I")) (.int 57) :: Cond.arrayOf (Term.static "FlowJudge$Steps" "SUMS" "[I") .int :: (List.range 57).map (fun k => Cond.eq (.elem (Term.static "FlowJudge$Steps" "SUMS" "[I") (.int (Int32.ofNat k))) (.int (x_st2 k)))) (big := flatC (Jvm.Cond.and given_1 narrow_1)) [61, 60, 62, 63, 64, 65, 66, 67, 68, 69, 70, 71, 72, 73, 74, 75, 76, 77, 78, 79, 80, 81, 82, 83, 84, 85, 86, 87, 88, 89, 90, 91, 92, 93, 94, 95, 96, 97, 98, 99, 100, 101, 102, 103, 104, 105, 106, 107, 108, 109, 110, 111, 112, 113, 114, 115, 116, 117, 118] rfl
  obtain ⟨b, hb, hX, hlt⟩ := x_statX (t := (Term.static "FlowJudge$Steps" "SUMS" "[I")) (L := 57) (z := 57) (xs := x_st2) rfl (by decide) (hs _ (hm _ List.mem_cons_self)) (hs _ (hm _ (List.mem_cons_of_mem _ List.mem_cons_self))) (fun k hk => hs _ (hm _ (List.mem_cons_of_mem _ (List.mem_cons_of_mem _ (List.mem_map.mpr ⟨k, List.mem_range.mpr hk, rfl⟩)))))
  exact ⟨b, va_Zref (hts (.laysStatic "FlowJudge$Steps" "SUMS" "[I") (by decide +kernel)) (hts (.initialized "FlowJudge$Steps") (by decide +kernel)) hb hng, hX, hlt⟩
set_option maxRecDepth 20000 in
theorem x_stat3 {A : Array Value} {s : State} (hts : ∀ w ∈ lw_tbl, w.before A s = true) (hgv : (Jvm.Cond.and given_1 narrow_1).before A s = true) : ∃ b : Nat, va_Z "FlowJudge$Steps" "KINDS" "[I" (.ref b) (x_new s.heap.size) s s.heap ∧ va_X b 4 x_st3 s s.heap ∧ b < s.heap.size := by
  have hng : ∀ a : Nat, a < s.heap.size → ¬ x_new s.heap.size a := fun a ha h => absurd h (Nat.not_le.mpr ha)
  have hs := flat_of_before _ hgv
  have hm := x_memp (ws := Cond.eq (.length (Term.static "FlowJudge$Steps" "KINDS" "[I")) (.int 4) :: Cond.arrayOf (Term.static "FlowJudge$Steps" "KINDS" "[I") .int :: (List.range 4).map (fun k => Cond.eq (.elem (Term.static "FlowJudge$Steps" "KINDS" "[I") (.int (Int32.ofNat k))) (.int (x_st3 k)))) (big := flatC (Jvm.Cond.and given_1 narrow_1)) [25, 24, 26, 27, 28, 29] rfl
  obtain ⟨b, hb, hX, hlt⟩ := x_statX (t := (Term.static "FlowJudge$Steps" "KINDS" "[I")) (L := 4) (z := 4) (xs := x_st3) rfl (by decide) (hs _ (hm _ List.mem_cons_self)) (hs _ (hm _ (List.mem_cons_of_mem _ List.mem_cons_self))) (fun k hk => hs _ (hm _ (List.mem_cons_of_mem _ (List.mem_cons_of_mem _ (List.mem_map.mpr ⟨k, List.mem_range.mpr hk, rfl⟩)))))
  exact ⟨b, va_Zref (hts (.laysStatic "FlowJudge$Steps" "KINDS" "[I") (by decide +kernel)) (hts (.initialized "FlowJudge$Steps") (by decide +kernel)) hb hng, hX, hlt⟩
set_option maxRecDepth 20000 in
theorem x_stat4 {A : Array Value} {s : State} (hts : ∀ w ∈ lw_tbl, w.before A s = true) (hgv : (Jvm.Cond.and given_1 narrow_1).before A s = true) : ∃ b : Nat, va_Z "FlowJudge$Steps" "ELEMENTS" "[I" (.ref b) (x_new s.heap.size) s s.heap ∧ va_X b 8 x_st4 s s.heap ∧ b < s.heap.size := by
  have hng : ∀ a : Nat, a < s.heap.size → ¬ x_new s.heap.size a := fun a ha h => absurd h (Nat.not_le.mpr ha)
  have hs := flat_of_before _ hgv
  have hm := x_memp (ws := Cond.eq (.length (Term.static "FlowJudge$Steps" "ELEMENTS" "[I")) (.int 8) :: Cond.arrayOf (Term.static "FlowJudge$Steps" "ELEMENTS" "[I") .int :: (List.range 8).map (fun k => Cond.eq (.elem (Term.static "FlowJudge$Steps" "ELEMENTS" "[I") (.int (Int32.ofNat k))) (.int (x_st4 k)))) (big := flatC (Jvm.Cond.and given_1 narrow_1)) [32, 31, 33, 34, 35, 36, 37, 38, 39, 40] rfl
  obtain ⟨b, hb, hX, hlt⟩ := x_statX (t := (Term.static "FlowJudge$Steps" "ELEMENTS" "[I")) (L := 8) (z := 8) (xs := x_st4) rfl (by decide) (hs _ (hm _ List.mem_cons_self)) (hs _ (hm _ (List.mem_cons_of_mem _ List.mem_cons_self))) (fun k hk => hs _ (hm _ (List.mem_cons_of_mem _ (List.mem_cons_of_mem _ (List.mem_map.mpr ⟨k, List.mem_range.mpr hk, rfl⟩)))))
  exact ⟨b, va_Zref (hts (.laysStatic "FlowJudge$Steps" "ELEMENTS" "[I") (by decide +kernel)) (hts (.initialized "FlowJudge$Steps") (by decide +kernel)) hb hng, hX, hlt⟩
set_option maxRecDepth 20000 in
theorem x_stat5 {A : Array Value} {s : State} (hts : ∀ w ∈ lw_tbl, w.before A s = true) (hgv : (Jvm.Cond.and given_1 narrow_1).before A s = true) : ∃ b : Nat, va_Z "FlowJudge$Steps" "COPIES" "[I" (.ref b) (x_new s.heap.size) s s.heap ∧ va_X b 6 x_st5 s s.heap ∧ b < s.heap.size := by
  have hng : ∀ a : Nat, a < s.heap.size → ¬ x_new s.heap.size a := fun a ha h => absurd h (Nat.not_le.mpr ha)
  have hs := flat_of_before _ hgv
  have hm := x_memp (ws := Cond.eq (.length (Term.static "FlowJudge$Steps" "COPIES" "[I")) (.int 6) :: Cond.arrayOf (Term.static "FlowJudge$Steps" "COPIES" "[I") .int :: (List.range 6).map (fun k => Cond.eq (.elem (Term.static "FlowJudge$Steps" "COPIES" "[I") (.int (Int32.ofNat k))) (.int (x_st5 k)))) (big := flatC (Jvm.Cond.and given_1 narrow_1)) [43, 42, 44, 45, 46, 47, 48, 49] rfl
  obtain ⟨b, hb, hX, hlt⟩ := x_statX (t := (Term.static "FlowJudge$Steps" "COPIES" "[I")) (L := 6) (z := 6) (xs := x_st5) rfl (by decide) (hs _ (hm _ List.mem_cons_self)) (hs _ (hm _ (List.mem_cons_of_mem _ List.mem_cons_self))) (fun k hk => hs _ (hm _ (List.mem_cons_of_mem _ (List.mem_cons_of_mem _ (List.mem_map.mpr ⟨k, List.mem_range.mpr hk, rfl⟩)))))
  exact ⟨b, va_Zref (hts (.laysStatic "FlowJudge$Steps" "COPIES" "[I") (by decide +kernel)) (hts (.initialized "FlowJudge$Steps") (by decide +kernel)) hb hng, hX, hlt⟩
set_option maxRecDepth 20000 in
theorem x_stat6 {A : Array Value} {s : State} (hts : ∀ w ∈ lw_tbl, w.before A s = true) (hgv : (Jvm.Cond.and given_1 narrow_1).before A s = true) : ∃ b : Nat, va_Z "FlowJudge$Steps" "UNDER" "[I" (.ref b) (x_new s.heap.size) s s.heap ∧ va_X b 6 x_st6 s s.heap ∧ b < s.heap.size := by
  have hng : ∀ a : Nat, a < s.heap.size → ¬ x_new s.heap.size a := fun a ha h => absurd h (Nat.not_le.mpr ha)
  have hs := flat_of_before _ hgv
  have hm := x_memp (ws := Cond.eq (.length (Term.static "FlowJudge$Steps" "UNDER" "[I")) (.int 6) :: Cond.arrayOf (Term.static "FlowJudge$Steps" "UNDER" "[I") .int :: (List.range 6).map (fun k => Cond.eq (.elem (Term.static "FlowJudge$Steps" "UNDER" "[I") (.int (Int32.ofNat k))) (.int (x_st6 k)))) (big := flatC (Jvm.Cond.and given_1 narrow_1)) [52, 51, 53, 54, 55, 56, 57, 58] rfl
  obtain ⟨b, hb, hX, hlt⟩ := x_statX (t := (Term.static "FlowJudge$Steps" "UNDER" "[I")) (L := 6) (z := 6) (xs := x_st6) rfl (by decide) (hs _ (hm _ List.mem_cons_self)) (hs _ (hm _ (List.mem_cons_of_mem _ List.mem_cons_self))) (fun k hk => hs _ (hm _ (List.mem_cons_of_mem _ (List.mem_cons_of_mem _ (List.mem_map.mpr ⟨k, List.mem_range.mpr hk, rfl⟩)))))
  exact ⟨b, va_Zref (hts (.laysStatic "FlowJudge$Steps" "UNDER" "[I") (by decide +kernel)) (hts (.initialized "FlowJudge$Steps") (by decide +kernel)) hb hng, hX, hlt⟩
theorem x_statS {A : Array Value} {s : State} (hts : ∀ w ∈ lw_tbl, w.before A s = true) (hgv : (Jvm.Cond.and given_1 narrow_1).before A s = true) : x_Sx s.heap.size s := by
  intro z hz
  simp only [x_sts, List.mem_cons, List.not_mem_nil, or_false] at hz
  rcases hz with rfl | rfl | rfl | rfl | rfl | rfl | rfl
  · exact x_stat0 hts hgv
  · exact x_stat1 hts hgv
  · exact x_stat2 hts hgv
  · exact x_stat3 hts hgv
  · exact x_stat4 hts hgv
  · exact x_stat5 hts hgv
  · exact x_stat6 hts hgv
