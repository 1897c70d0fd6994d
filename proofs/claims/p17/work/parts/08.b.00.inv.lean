/-! what holds of the reference between calls -/
def y_Ka (v9_1 : Int32) (g9_4 : Nat → Int32) : Prop := (4 ≤ v9_1.toInt) ∧ (v9_1.toInt ≤ 200) ∧ (y_Up g9_4)
def y_Kb (v9_2 : Int32) (v9_3 : Int32) (g9_6 : Nat → Int32) (g9_7 : Nat → Int32) (g9_8 : Nat → Int32) (g9_9 : Nat → Int32) (g9_10 : Nat → Int32) (g9_11 : Nat → Int32) : Prop := (0 ≤ v9_2.toInt) ∧ (v9_2.toInt ≤ 100) ∧ (0 ≤ v9_3.toInt) ∧ (v9_3.toInt ≤ 100) ∧ (y_Rg 100 0 199 g9_6) ∧ (y_ATy 100 g9_7) ∧ (y_Rg 100 0 199 g9_8) ∧ (y_ARs 100 g9_9) ∧ (y_Rg 100 0 20 g9_10) ∧ (y_ATy 2000 g9_11)
def y_Kc (v9_13 : Int32) (v9_15 : Int32) (v9_16 : Int32) (v9_17 : Int32) (v9_18 : Int32) (v9_20 : Int32) (v9_21 : Int32) (v9_22 : Int32) (g9_19 : Nat → Int32) (g9_23 : Nat → Int32) (g9_24 : Nat → Int32) (g9_25 : Nat → Int32) (g9_26 : Nat → Int32) (g9_27 : Nat → Int32) (g9_28 : Nat → Int32) (g9_31 : Nat → Int32) (g9_32 : Nat → Int32) : Prop := (0 ≤ v9_13.toInt) ∧ (v9_13.toInt ≤ 199) ∧ (y_Rs v9_15) ∧ (0 ≤ v9_16.toInt) ∧ (v9_16.toInt ≤ 200) ∧ (0 ≤ v9_17.toInt) ∧ (v9_17.toInt ≤ 200) ∧ (0 ≤ v9_18.toInt) ∧ (v9_18.toInt ≤ 20) ∧ (0 ≤ v9_20.toInt) ∧ (v9_20.toInt ≤ 1000) ∧ (0 ≤ v9_21.toInt) ∧ (v9_21.toInt ≤ 50) ∧ (y_ATy 20 g9_19) ∧ (y_TB v9_20.toInt v9_22.toInt g9_26 g9_27) ∧ (y_AIn g9_23 g9_24 g9_25) ∧ (y_Rg 50000 0 2147483647 g9_28) ∧ (y_Rg 50 0 2147483647 g9_31) ∧ (y_Rg 50 (-1) 199 g9_32)
def y_Kd (v9_42 : Int32) (v9_49 : Int32) (v9_50 : Int32) (v9_51 : Int32) (g9_33 : Nat → Int32) (g9_34 : Nat → Int32) (g9_38 : Nat → Int32) (g9_39 : Nat → Int32) (g9_44 : Nat → Int32) (g9_52 : Nat → Int32) (g9_57 : Nat → Int32) (g9_61 : Nat → Int32) : Prop := (y_AV 202 g9_33) ∧ (y_AV 202 g9_34) ∧ (y_AV 60600 g9_57) ∧ (y_AV 2 g9_61) ∧ (y_NI 1 g9_39) ∧ (y_Told v9_49.toInt v9_50.toInt v9_51.toInt v9_42.toInt g9_38 g9_39 g9_44 g9_52 g9_57)
set_option maxHeartbeats 4000000 in
theorem k9_add {v9_1 : Int32} {g9_4 : Nat → Int32} {v9_0 : Int32} {g9_5 : Nat → Int32} {p1 : Int32} {p2 : Int32} (ha : y_Ka v9_1 g9_4) : y_Ok (f_X9_add v9_0 v9_1 g9_4 g9_5 p1 p2) (fun r => (y_Ka r.2.2.1 r.2.2.2.1)) := by
  obtain ⟨qa_0, qa_1, qa_2⟩ := ha
  refine y_Ok.mono (y_X9_add (by omega) (by omega) (by first | with_reducible assumption | omega)) (fun r h => ?_)
  obtain ⟨p_0, p_1, p_2⟩ := h
  refine ⟨?_, ?_, ?_⟩ <;> (first | with_reducible assumption | omega)
set_option maxHeartbeats 4000000 in
theorem k9_field {v9_1 : Int32} {g9_4 : Nat → Int32} {v9_2 : Int32} {v9_3 : Int32} {g9_6 : Nat → Int32} {g9_7 : Nat → Int32} {g9_8 : Nat → Int32} {g9_9 : Nat → Int32} {g9_10 : Nat → Int32} {g9_11 : Nat → Int32} {v9_0 : Int32} {p1 : Int32} {p2 : Int32} (ha : y_Ka v9_1 g9_4) (hb : y_Kb v9_2 v9_3 g9_6 g9_7 g9_8 g9_9 g9_10 g9_11) : y_Ok (f_X9_field v9_0 v9_1 v9_2 g9_6 g9_7 p1 p2) (fun r => (y_Kb r.2.2.1 v9_3 r.2.2.2.1 r.2.2.2.2 g9_8 g9_9 g9_10 g9_11)) := by
  obtain ⟨qa_0, qa_1, qa_2⟩ := ha
  obtain ⟨qb_0, qb_1, qb_2, qb_3, qb_4, qb_5, qb_6, qb_7, qb_8, qb_9⟩ := hb
  refine y_Ok.mono (y_X9_field (by omega) (by omega) (by omega) (by omega) (by first | with_reducible assumption | omega) (by first | with_reducible assumption | omega)) (fun r h => ?_)
  obtain ⟨p_0, p_1, p_2, p_3⟩ := h
  refine ⟨?_, ?_, ?_, ?_, ?_, ?_, ?_, ?_, ?_, ?_⟩ <;> (first | with_reducible assumption | omega)
set_option maxHeartbeats 4000000 in
theorem k9_shape {v9_1 : Int32} {g9_4 : Nat → Int32} {v9_2 : Int32} {v9_3 : Int32} {g9_6 : Nat → Int32} {g9_7 : Nat → Int32} {g9_8 : Nat → Int32} {g9_9 : Nat → Int32} {g9_10 : Nat → Int32} {g9_11 : Nat → Int32} {v9_0 : Int32} {g9_5 : Nat → Int32} {g9_12 : Nat → Int32} {p1 : Int32} {p2 : Int32} {p3 : Int32} (ha : y_Ka v9_1 g9_4) (hb : y_Kb v9_2 v9_3 g9_6 g9_7 g9_8 g9_9 g9_10 g9_11) : y_Ok (f_X9_shape v9_0 v9_1 v9_3 g9_5 g9_8 g9_9 g9_10 g9_12 p1 p2 p3) (fun r => (y_Kb v9_2 r.2.2.1 g9_6 g9_7 r.2.2.2.1 r.2.2.2.2.1 r.2.2.2.2.2.1 g9_11)) := by
  obtain ⟨qa_0, qa_1, qa_2⟩ := ha
  obtain ⟨qb_0, qb_1, qb_2, qb_3, qb_4, qb_5, qb_6, qb_7, qb_8, qb_9⟩ := hb
  refine y_Ok.mono (y_X9_shape (by omega) (by omega) (by omega) (by omega) (by first | with_reducible assumption | omega) (by first | with_reducible assumption | omega) (by first | with_reducible assumption | omega)) (fun r h => ?_)
  obtain ⟨p_0, p_1, p_2, p_3, p_4⟩ := h
  refine ⟨?_, ?_, ?_, ?_, ?_, ?_, ?_, ?_, ?_, ?_⟩ <;> (first | with_reducible assumption | omega)
set_option maxHeartbeats 4000000 in
theorem k9_takes {v9_1 : Int32} {g9_4 : Nat → Int32} {v9_2 : Int32} {v9_3 : Int32} {g9_6 : Nat → Int32} {g9_7 : Nat → Int32} {g9_8 : Nat → Int32} {g9_9 : Nat → Int32} {g9_10 : Nat → Int32} {g9_11 : Nat → Int32} {v9_0 : Int32} {p1 : Int32} (ha : y_Ka v9_1 g9_4) (hb : y_Kb v9_2 v9_3 g9_6 g9_7 g9_8 g9_9 g9_10 g9_11) : y_Ok (f_X9_takes v9_0 v9_1 v9_3 g9_10 g9_11 p1) (fun r => (y_Kb v9_2 v9_3 g9_6 g9_7 g9_8 g9_9 r.2.2.1 r.2.2.2)) := by
  obtain ⟨qa_0, qa_1, qa_2⟩ := ha
  obtain ⟨qb_0, qb_1, qb_2, qb_3, qb_4, qb_5, qb_6, qb_7, qb_8, qb_9⟩ := hb
  refine y_Ok.mono (y_X9_takes (by omega) (by omega) (by omega) (by omega) (by first | with_reducible assumption | omega) (by first | with_reducible assumption | omega)) (fun r h => ?_)
  obtain ⟨p_0, p_1⟩ := h
  refine ⟨?_, ?_, ?_, ?_, ?_, ?_, ?_, ?_, ?_, ?_⟩ <;> (first | with_reducible assumption | omega)
set_option maxHeartbeats 4000000 in
theorem k9_method {v9_1 : Int32} {g9_4 : Nat → Int32} {v9_13 : Int32} {v9_15 : Int32} {v9_16 : Int32} {v9_17 : Int32} {v9_18 : Int32} {v9_20 : Int32} {v9_21 : Int32} {v9_22 : Int32} {g9_19 : Nat → Int32} {g9_23 : Nat → Int32} {g9_24 : Nat → Int32} {g9_25 : Nat → Int32} {g9_26 : Nat → Int32} {g9_27 : Nat → Int32} {g9_28 : Nat → Int32} {g9_31 : Nat → Int32} {g9_32 : Nat → Int32} {v9_0 : Int32} {v9_14 : Int32} {g9_5 : Nat → Int32} {p1 : Int32} {p2 : Int32} {p3 : Int32} {p4 : Int32} {p5 : Int32} (ha : y_Ka v9_1 g9_4) (hc : y_Kc v9_13 v9_15 v9_16 v9_17 v9_18 v9_20 v9_21 v9_22 g9_19 g9_23 g9_24 g9_25 g9_26 g9_27 g9_28 g9_31 g9_32) : y_Ok (f_X9_method v9_0 v9_1 v9_13 v9_14 v9_15 v9_16 v9_17 v9_18 v9_20 v9_21 v9_22 g9_5 p1 p2 p3 p4 p5) (fun r => (y_Kc r.2.2.1 r.2.2.2.2.1 r.2.2.2.2.2.1 r.2.2.2.2.2.2.1 r.2.2.2.2.2.2.2.1 r.2.2.2.2.2.2.2.2.1 r.2.2.2.2.2.2.2.2.2.1 r.2.2.2.2.2.2.2.2.2.2 g9_19 g9_23 g9_24 g9_25 g9_26 g9_27 g9_28 g9_31 g9_32)) := by
  obtain ⟨qa_0, qa_1, qa_2⟩ := ha
  obtain ⟨qc_0, qc_1, qc_2, qc_3, qc_4, qc_5, qc_6, qc_7, qc_8, qc_9, qc_10, qc_11, qc_12, qc_13, qc_14, qc_15, qc_16, qc_17, qc_18⟩ := hc
  refine y_Ok.mono (y_X9_method (ga := g9_26) (gm := g9_27) (by omega) (by omega) (by omega) (by omega) (by first | with_reducible assumption | omega) (by omega) (by omega) (by omega) (by omega) (by omega) (by omega) (by omega) (by omega) (by omega) (by omega) (by first | with_reducible assumption | omega)) (fun r h => ?_)
  obtain ⟨p_0, p_1, p_2, p_3, p_4, p_5, p_6, p_7, p_8, p_9, p_10, p_11, p_12, p_13⟩ := h
  refine ⟨?_, ?_, ?_, ?_, ?_, ?_, ?_, ?_, ?_, ?_, ?_, ?_, ?_, ?_, ?_, ?_, ?_, ?_, ?_⟩ <;> (first | with_reducible assumption | omega)
set_option maxHeartbeats 4000000 in
theorem k9_argument {v9_1 : Int32} {g9_4 : Nat → Int32} {v9_13 : Int32} {v9_15 : Int32} {v9_16 : Int32} {v9_17 : Int32} {v9_18 : Int32} {v9_20 : Int32} {v9_21 : Int32} {v9_22 : Int32} {g9_19 : Nat → Int32} {g9_23 : Nat → Int32} {g9_24 : Nat → Int32} {g9_25 : Nat → Int32} {g9_26 : Nat → Int32} {g9_27 : Nat → Int32} {g9_28 : Nat → Int32} {g9_31 : Nat → Int32} {g9_32 : Nat → Int32} {v9_0 : Int32} {p1 : Int32} (ha : y_Ka v9_1 g9_4) (hc : y_Kc v9_13 v9_15 v9_16 v9_17 v9_18 v9_20 v9_21 v9_22 g9_19 g9_23 g9_24 g9_25 g9_26 g9_27 g9_28 g9_31 g9_32) : y_Ok (f_X9_argument v9_0 v9_1 v9_18 g9_19 p1) (fun r => (y_Kc v9_13 v9_15 v9_16 v9_17 r.2.2.1 v9_20 v9_21 v9_22 r.2.2.2 g9_23 g9_24 g9_25 g9_26 g9_27 g9_28 g9_31 g9_32)) := by
  obtain ⟨qa_0, qa_1, qa_2⟩ := ha
  obtain ⟨qc_0, qc_1, qc_2, qc_3, qc_4, qc_5, qc_6, qc_7, qc_8, qc_9, qc_10, qc_11, qc_12, qc_13, qc_14, qc_15, qc_16, qc_17, qc_18⟩ := hc
  refine y_Ok.mono (y_X9_argument (by omega) (by omega) (by omega) (by omega) (by first | with_reducible assumption | omega)) (fun r h => ?_)
  obtain ⟨p_0, p_1, p_2⟩ := h
  refine ⟨?_, ?_, ?_, ?_, ?_, ?_, ?_, ?_, ?_, ?_, ?_, ?_, ?_, ?_, ?_, ?_, ?_, ?_, ?_⟩ <;> (first | with_reducible assumption | omega)
set_option maxHeartbeats 4000000 in
theorem k9_put {v9_1 : Int32} {g9_4 : Nat → Int32} {v9_2 : Int32} {v9_3 : Int32} {g9_6 : Nat → Int32} {g9_7 : Nat → Int32} {g9_8 : Nat → Int32} {g9_9 : Nat → Int32} {g9_10 : Nat → Int32} {g9_11 : Nat → Int32} {v9_13 : Int32} {v9_15 : Int32} {v9_16 : Int32} {v9_17 : Int32} {v9_18 : Int32} {v9_20 : Int32} {v9_21 : Int32} {v9_22 : Int32} {g9_19 : Nat → Int32} {g9_23 : Nat → Int32} {g9_24 : Nat → Int32} {g9_25 : Nat → Int32} {g9_26 : Nat → Int32} {g9_27 : Nat → Int32} {g9_28 : Nat → Int32} {g9_31 : Nat → Int32} {g9_32 : Nat → Int32} {v9_0 : Int32} {p1 : Int32} {p2 : Int32} {p3 : Int32} (ha : y_Ka v9_1 g9_4) (hb : y_Kb v9_2 v9_3 g9_6 g9_7 g9_8 g9_9 g9_10 g9_11) (hc : y_Kc v9_13 v9_15 v9_16 v9_17 v9_18 v9_20 v9_21 v9_22 g9_19 g9_23 g9_24 g9_25 g9_26 g9_27 g9_28 g9_31 g9_32) : y_Ok (f_X9_put v9_0 v9_1 v9_2 v9_3 v9_20 v9_22 g9_23 g9_24 g9_25 g9_26 g9_27 p1 p2 p3) (fun r => (y_Kc v9_13 v9_15 v9_16 v9_17 v9_18 r.2.2.1 v9_21 v9_22 g9_19 r.2.2.2.1 r.2.2.2.2.1 r.2.2.2.2.2.1 r.2.2.2.2.2.2.1 r.2.2.2.2.2.2.2 g9_28 g9_31 g9_32)) := by
  obtain ⟨qa_0, qa_1, qa_2⟩ := ha
  obtain ⟨qb_0, qb_1, qb_2, qb_3, qb_4, qb_5, qb_6, qb_7, qb_8, qb_9⟩ := hb
  obtain ⟨qc_0, qc_1, qc_2, qc_3, qc_4, qc_5, qc_6, qc_7, qc_8, qc_9, qc_10, qc_11, qc_12, qc_13, qc_14, qc_15, qc_16, qc_17, qc_18⟩ := hc
  refine y_Ok.mono (y_X9_put (by omega) (by omega) (by omega) (by omega) (by omega) (by omega) (by omega) (by omega) (by first | with_reducible assumption | omega) (by first | with_reducible assumption | omega)) (fun r h => ?_)
  obtain ⟨p_0, p_1, p_2, p_3⟩ := h
  refine ⟨?_, ?_, ?_, ?_, ?_, ?_, ?_, ?_, ?_, ?_, ?_, ?_, ?_, ?_, ?_, ?_, ?_, ?_, ?_⟩ <;> (first | with_reducible assumption | omega)
set_option maxHeartbeats 4000000 in
theorem k9_to {v9_13 : Int32} {v9_15 : Int32} {v9_16 : Int32} {v9_17 : Int32} {v9_18 : Int32} {v9_20 : Int32} {v9_21 : Int32} {v9_22 : Int32} {g9_19 : Nat → Int32} {g9_23 : Nat → Int32} {g9_24 : Nat → Int32} {g9_25 : Nat → Int32} {g9_26 : Nat → Int32} {g9_27 : Nat → Int32} {g9_28 : Nat → Int32} {g9_31 : Nat → Int32} {g9_32 : Nat → Int32} {v9_0 : Int32} {p1 : Int32} (hc : y_Kc v9_13 v9_15 v9_16 v9_17 v9_18 v9_20 v9_21 v9_22 g9_19 g9_23 g9_24 g9_25 g9_26 g9_27 g9_28 g9_31 g9_32) : y_Ok (f_X9_to v9_0 v9_20 v9_22 g9_23 g9_27 g9_28 p1) (fun r => (y_Kc v9_13 v9_15 v9_16 v9_17 v9_18 v9_20 v9_21 r.2.2.1 g9_19 g9_23 g9_24 g9_25 g9_26 r.2.2.2.1 r.2.2.2.2 g9_31 g9_32)) := by
  obtain ⟨qc_0, qc_1, qc_2, qc_3, qc_4, qc_5, qc_6, qc_7, qc_8, qc_9, qc_10, qc_11, qc_12, qc_13, qc_14, qc_15, qc_16, qc_17, qc_18⟩ := hc
  refine y_Ok.mono (y_X9_to (g9_26 := g9_26) (by omega) (by omega) (by first | with_reducible assumption | omega) (by first | with_reducible assumption | omega)) (fun r h => ?_)
  obtain ⟨p_0, p_1⟩ := h
  refine ⟨?_, ?_, ?_, ?_, ?_, ?_, ?_, ?_, ?_, ?_, ?_, ?_, ?_, ?_, ?_, ?_, ?_, ?_, ?_⟩ <;> (first | with_reducible assumption | omega)
set_option maxHeartbeats 4000000 in
theorem k9_row {v9_1 : Int32} {g9_4 : Nat → Int32} {v9_13 : Int32} {v9_15 : Int32} {v9_16 : Int32} {v9_17 : Int32} {v9_18 : Int32} {v9_20 : Int32} {v9_21 : Int32} {v9_22 : Int32} {g9_19 : Nat → Int32} {g9_23 : Nat → Int32} {g9_24 : Nat → Int32} {g9_25 : Nat → Int32} {g9_26 : Nat → Int32} {g9_27 : Nat → Int32} {g9_28 : Nat → Int32} {g9_31 : Nat → Int32} {g9_32 : Nat → Int32} {v9_0 : Int32} {g9_29 : Nat → Int32} {g9_30 : Nat → Int32} {p1 : Int32} {p2 : Int32} {p3 : Int32} {p4 : Int32} (ha : y_Ka v9_1 g9_4) (hc : y_Kc v9_13 v9_15 v9_16 v9_17 v9_18 v9_20 v9_21 v9_22 g9_19 g9_23 g9_24 g9_25 g9_26 g9_27 g9_28 g9_31 g9_32) : y_Ok (f_X9_row v9_0 v9_1 v9_21 g9_29 g9_30 g9_31 g9_32 p1 p2 p3 p4) (fun r => (y_Kc v9_13 v9_15 v9_16 v9_17 v9_18 v9_20 r.2.2.1 v9_22 g9_19 g9_23 g9_24 g9_25 g9_26 g9_27 g9_28 r.2.2.2.2.2.1 r.2.2.2.2.2.2)) := by
  obtain ⟨qa_0, qa_1, qa_2⟩ := ha
  obtain ⟨qc_0, qc_1, qc_2, qc_3, qc_4, qc_5, qc_6, qc_7, qc_8, qc_9, qc_10, qc_11, qc_12, qc_13, qc_14, qc_15, qc_16, qc_17, qc_18⟩ := hc
  refine y_Ok.mono (y_X9_row (by omega) (by omega) (by omega) (by omega) (by first | with_reducible assumption | omega) (by first | with_reducible assumption | omega)) (fun r h => ?_)
  obtain ⟨p_0, p_1, p_2, p_3⟩ := h
  refine ⟨?_, ?_, ?_, ?_, ?_, ?_, ?_, ?_, ?_, ?_, ?_, ?_, ?_, ?_, ?_, ?_, ?_, ?_, ?_⟩ <;> (first | with_reducible assumption | omega)
set_option maxHeartbeats 4000000 in
theorem k9_judge {v9_1 : Int32} {g9_4 : Nat → Int32} {v9_2 : Int32} {v9_3 : Int32} {g9_6 : Nat → Int32} {g9_7 : Nat → Int32} {g9_8 : Nat → Int32} {g9_9 : Nat → Int32} {g9_10 : Nat → Int32} {g9_11 : Nat → Int32} {v9_13 : Int32} {v9_15 : Int32} {v9_16 : Int32} {v9_17 : Int32} {v9_18 : Int32} {v9_20 : Int32} {v9_21 : Int32} {v9_22 : Int32} {g9_19 : Nat → Int32} {g9_23 : Nat → Int32} {g9_24 : Nat → Int32} {g9_25 : Nat → Int32} {g9_26 : Nat → Int32} {g9_27 : Nat → Int32} {g9_28 : Nat → Int32} {g9_31 : Nat → Int32} {g9_32 : Nat → Int32} {v9_42 : Int32} {v9_49 : Int32} {v9_50 : Int32} {v9_51 : Int32} {g9_33 : Nat → Int32} {g9_34 : Nat → Int32} {g9_38 : Nat → Int32} {g9_39 : Nat → Int32} {g9_44 : Nat → Int32} {g9_52 : Nat → Int32} {g9_57 : Nat → Int32} {g9_61 : Nat → Int32} {v9_0 : Int32} {v9_14 : Int32} {v9_35 : Int32} {v9_36 : Int32} {v9_48 : Int32} {v9_54 : Int32} {v9_55 : Int32} {v9_58 : Int32} {g9_5 : Nat → Int32} {g9_12 : Nat → Int32} {g9_29 : Nat → Int32} {g9_30 : Nat → Int32} {g9_37 : Nat → Int32} {g9_40 : Nat → Int32} {g9_41 : Nat → Int32} {g9_43 : Nat → Int32} {g9_45 : Nat → Int32} {g9_46 : Nat → Int32} {g9_47 : Nat → Int32} {g9_53 : Nat → Int32} {g9_56 : Nat → Int32} {g9_59 : Nat → Int32} {g9_60 : Nat → Int32} (ha : y_Ka v9_1 g9_4) (hb : y_Kb v9_2 v9_3 g9_6 g9_7 g9_8 g9_9 g9_10 g9_11) (hc : y_Kc v9_13 v9_15 v9_16 v9_17 v9_18 v9_20 v9_21 v9_22 g9_19 g9_23 g9_24 g9_25 g9_26 g9_27 g9_28 g9_31 g9_32) (hd : y_Kd v9_42 v9_49 v9_50 v9_51 g9_33 g9_34 g9_38 g9_39 g9_44 g9_52 g9_57 g9_61) : y_Ok (f_X9_judge v9_0 v9_13 v9_14 v9_15 v9_16 v9_17 v9_18 v9_20 v9_21 v9_35 v9_36 v9_42 v9_48 v9_49 v9_50 v9_51 v9_54 v9_55 v9_58 g9_4 g9_5 g9_6 g9_7 g9_8 g9_9 g9_10 g9_11 g9_12 g9_19 g9_23 g9_24 g9_25 g9_26 g9_27 g9_28 g9_29 g9_30 g9_31 g9_32 g9_33 g9_34 g9_37 g9_38 g9_39 g9_40 g9_41 g9_43 g9_44 g9_45 g9_46 g9_47 g9_52 g9_53 g9_56 g9_57 g9_59 g9_60 g9_61) (fun r => (y_Kd r.2.2.2.2.1 r.2.2.2.2.2.2.1 r.2.2.2.2.2.2.2.1 r.2.2.2.2.2.2.2.2.1 r.2.2.2.2.2.2.2.2.2.2.2.2.1 r.2.2.2.2.2.2.2.2.2.2.2.2.2.1 r.2.2.2.2.2.2.2.2.2.2.2.2.2.2.2.1 r.2.2.2.2.2.2.2.2.2.2.2.2.2.2.2.2.1 r.2.2.2.2.2.2.2.2.2.2.2.2.2.2.2.2.2.2.2.2.1 r.2.2.2.2.2.2.2.2.2.2.2.2.2.2.2.2.2.2.2.2.2.2.2.2.1 r.2.2.2.2.2.2.2.2.2.2.2.2.2.2.2.2.2.2.2.2.2.2.2.2.2.2.2.1 r.2.2.2.2.2.2.2.2.2.2.2.2.2.2.2.2.2.2.2.2.2.2.2.2.2.2.2.2.2.2)) := by
  obtain ⟨qa_0, qa_1, qa_2⟩ := ha
  obtain ⟨qb_0, qb_1, qb_2, qb_3, qb_4, qb_5, qb_6, qb_7, qb_8, qb_9⟩ := hb
  obtain ⟨qc_0, qc_1, qc_2, qc_3, qc_4, qc_5, qc_6, qc_7, qc_8, qc_9, qc_10, qc_11, qc_12, qc_13, qc_14, qc_15, qc_16, qc_17, qc_18⟩ := hc
  obtain ⟨qd_0, qd_1, qd_2, qd_3, qd_4, qd_5⟩ := hd
  have hta := y_TB.ta (by with_reducible assumption : y_TB v9_20.toInt v9_22.toInt g9_26 g9_27) (by omega)
  refine y_Ok.mono (y_X9_judge (by omega) (by omega) (by omega) (by omega) (by omega) (by omega) (by first | with_reducible assumption | omega) (by first | with_reducible assumption | omega) (by first | with_reducible assumption | omega) (by first | with_reducible assumption | omega) (by first | with_reducible assumption | omega) (by first | with_reducible assumption | omega) (by first | with_reducible assumption | omega) (by first | with_reducible assumption | omega) (by first | with_reducible assumption | omega) (by omega) (by omega) (by omega) (by first | with_reducible assumption | omega) (by first | with_reducible assumption | omega) (by first | with_reducible assumption | omega) (by omega) (by first | with_reducible assumption | omega) (by first | with_reducible assumption | omega) (by omega) (by omega) (by first | with_reducible assumption | omega) (by first | with_reducible assumption | omega) (by first | with_reducible assumption | omega) (by first | with_reducible assumption | omega) (by first | with_reducible assumption | omega)) (fun r h => ?_)
  obtain ⟨p_0, p_1, p_2, p_3, p_4, p_5, p_6⟩ := h
  refine ⟨?_, ?_, ?_, ?_, ?_, ?_⟩ <;> (first | with_reducible assumption | omega)
set_option maxHeartbeats 4000000 in
theorem k9_frame {v9_42 : Int32} {v9_49 : Int32} {v9_50 : Int32} {v9_51 : Int32} {g9_33 : Nat → Int32} {g9_34 : Nat → Int32} {g9_38 : Nat → Int32} {g9_39 : Nat → Int32} {g9_44 : Nat → Int32} {g9_52 : Nat → Int32} {g9_57 : Nat → Int32} {g9_61 : Nat → Int32} {v9_0 : Int32} {v9_58 : Int32} {g9_43 : Nat → Int32} {p1 : Int32} {p2 : Int32} (hd : y_Kd v9_42 v9_49 v9_50 v9_51 g9_33 g9_34 g9_38 g9_39 g9_44 g9_52 g9_57 g9_61) : y_Ok (f_X9_frame v9_0 v9_49 v9_50 v9_51 v9_58 g9_39 g9_43 g9_44 g9_52 g9_57 p1 p2) (fun r => (True)) := by
  obtain ⟨qd_0, qd_1, qd_2, qd_3, qd_4, qd_5⟩ := hd
  obtain ⟨cx, hx1, hx2, hx38, hx39, hctx, hord, hfit, hH⟩ := y_Told.x qd_5 qd_4
  have hTb := qd_5.b
  have hC : (((v9_50.toInt + v9_51.toInt).toNat : Nat) : Int) = v9_50.toInt + v9_51.toInt := by omega
  have hle := hfit.le (by omega)
  refine y_Ok.mono (y_X9_frame (C := (v9_50.toInt + v9_51.toInt).toNat) (cx := cx) (by omega) (by omega) (by omega) (by omega) (by omega) (by omega) (by first | with_reducible assumption | omega) (by first | with_reducible assumption | omega) (by omega) (by omega) (by first | with_reducible assumption | omega) (by first | with_reducible assumption | omega) (by first | with_reducible assumption | omega)) (fun r h => ?_)
  trivial
set_option maxHeartbeats 4000000 in
theorem k9_context {v9_42 : Int32} {v9_49 : Int32} {v9_50 : Int32} {v9_51 : Int32} {g9_33 : Nat → Int32} {g9_34 : Nat → Int32} {g9_38 : Nat → Int32} {g9_39 : Nat → Int32} {g9_44 : Nat → Int32} {g9_52 : Nat → Int32} {g9_57 : Nat → Int32} {g9_61 : Nat → Int32} {v9_0 : Int32} {g9_37 : Nat → Int32} {p1 : Int32} {p2 : Int32} (hd : y_Kd v9_42 v9_49 v9_50 v9_51 g9_33 g9_34 g9_38 g9_39 g9_44 g9_52 g9_57 g9_61) : y_Ok (f_X9_context v9_0 v9_49 g9_37 g9_38 g9_39 g9_44 g9_52 p1 p2) (fun r => (True)) := by
  obtain ⟨qd_0, qd_1, qd_2, qd_3, qd_4, qd_5⟩ := hd
  obtain ⟨cx, hx1, hx2, hx38, hx39, hctx, hord, hfit, hH⟩ := y_Told.x qd_5 qd_4
  have hTb := qd_5.b
  have hC : (((v9_50.toInt + v9_51.toInt).toNat : Nat) : Int) = v9_50.toInt + v9_51.toInt := by omega
  have hle := hfit.le (by omega)
  refine y_Ok.mono (y_X9_context (cx := cx) (by omega) (by omega) (by omega) (by omega) (by first | with_reducible assumption | omega) (by first | with_reducible assumption | omega) (by first | with_reducible assumption | omega) (by first | with_reducible assumption | omega)) (fun r h => ?_)
  trivial
set_option maxHeartbeats 4000000 in
theorem k9_told {v9_42 : Int32} {v9_49 : Int32} {v9_50 : Int32} {v9_51 : Int32} {g9_33 : Nat → Int32} {g9_34 : Nat → Int32} {g9_38 : Nat → Int32} {g9_39 : Nat → Int32} {g9_44 : Nat → Int32} {g9_52 : Nat → Int32} {g9_57 : Nat → Int32} {g9_61 : Nat → Int32} {v9_0 : Int32} {v9_58 : Int32} {g9_43 : Nat → Int32} {p1 : Int32} {p2 : Int32} (hd : y_Kd v9_42 v9_49 v9_50 v9_51 g9_33 g9_34 g9_38 g9_39 g9_44 g9_52 g9_57 g9_61) : y_Ok (f_X9_told v9_0 v9_49 v9_50 v9_51 v9_58 g9_39 g9_43 g9_44 g9_52 g9_57 p1 p2) (fun r => (True)) := by
  obtain ⟨qd_0, qd_1, qd_2, qd_3, qd_4, qd_5⟩ := hd
  obtain ⟨cx, hx1, hx2, hx38, hx39, hctx, hord, hfit, hH⟩ := y_Told.x qd_5 qd_4
  have hTb := qd_5.b
  have hC : (((v9_50.toInt + v9_51.toInt).toNat : Nat) : Int) = v9_50.toInt + v9_51.toInt := by omega
  have hle := hfit.le (by omega)
  refine y_Ok.mono (y_X9_told (C := (v9_50.toInt + v9_51.toInt).toNat) (cx := cx) (by omega) (by omega) (by omega) (by omega) (by omega) (by omega) (by first | with_reducible assumption | omega) (by first | with_reducible assumption | omega) (by omega) (by omega) (by first | with_reducible assumption | omega) (by first | with_reducible assumption | omega) (by first | with_reducible assumption | omega)) (fun r h => ?_)
  trivial
set_option maxHeartbeats 4000000 in
theorem k9_digest {v9_42 : Int32} {v9_49 : Int32} {v9_50 : Int32} {v9_51 : Int32} {g9_33 : Nat → Int32} {g9_34 : Nat → Int32} {g9_38 : Nat → Int32} {g9_39 : Nat → Int32} {g9_44 : Nat → Int32} {g9_52 : Nat → Int32} {g9_57 : Nat → Int32} {g9_61 : Nat → Int32} {v9_0 : Int32} {v9_58 : Int32} {g9_43 : Nat → Int32} (hd : y_Kd v9_42 v9_49 v9_50 v9_51 g9_33 g9_34 g9_38 g9_39 g9_44 g9_52 g9_57 g9_61) : y_Ok (f_X9_digest v9_0 v9_49 v9_50 v9_51 v9_58 g9_39 g9_43 g9_44 g9_52 g9_57) (fun r => (True)) := by
  obtain ⟨qd_0, qd_1, qd_2, qd_3, qd_4, qd_5⟩ := hd
  obtain ⟨cx, hx1, hx2, hx38, hx39, hctx, hord, hfit, hH⟩ := y_Told.x qd_5 qd_4
  have hTb := qd_5.b
  have hC : (((v9_50.toInt + v9_51.toInt).toNat : Nat) : Int) = v9_50.toInt + v9_51.toInt := by omega
  have hle := hfit.le (by omega)
  refine y_Ok.mono (y_X9_digest (C := (v9_50.toInt + v9_51.toInt).toNat) (cx := cx) (by omega) (by omega) (by omega) (by omega) (by omega) (by omega) (by first | with_reducible assumption | omega) (by first | with_reducible assumption | omega) (by omega) (by omega) (by first | with_reducible assumption | omega) (by first | with_reducible assumption | omega) (by first | with_reducible assumption | omega)) (fun r h => ?_)
  trivial
set_option maxHeartbeats 4000000 in
theorem k9_stands {v9_1 : Int32} {g9_4 : Nat → Int32} {v9_0 : Int32} {g9_5 : Nat → Int32} {p1 : Int32} {p2 : Int32} (ha : y_Ka v9_1 g9_4) : y_Ok (f_X9_stands v9_0 v9_1 g9_4 g9_5 p1 p2) (fun r => (True)) := by
  obtain ⟨qa_0, qa_1, qa_2⟩ := ha
  refine y_Ok.mono (y_X9_stands (by omega) (by omega) (by first | with_reducible assumption | omega)) (fun r h => ?_)
  trivial
set_option maxHeartbeats 4000000 in
theorem k9_common {v9_1 : Int32} {g9_4 : Nat → Int32} {v9_0 : Int32} {g9_5 : Nat → Int32} {p1 : Int32} {p2 : Int32} (ha : y_Ka v9_1 g9_4) : y_Ok (f_X9_common v9_0 v9_1 g9_4 g9_5 p1 p2) (fun r => (True)) := by
  obtain ⟨qa_0, qa_1, qa_2⟩ := ha
  refine y_Ok.mono (y_X9_common (by omega) (by omega) (by first | with_reducible assumption | omega)) (fun r h => ?_)
  trivial
