theorem y_0 : (0 : Int32).toInt = 0 := rfl
theorem y_Rgz {n : Nat} {lo hi : Int} (h1 : lo ≤ 0) (h2 : 0 ≤ hi) : y_Rg n lo hi x_z0 := fun k _ => by
  have e : (x_z0 k).toInt = 0 := rfl
  rw [e]
  exact ⟨h1, h2⟩
theorem y_Ty0 : y_Ty 0 := by
  unfold y_Ty
  rw [y_0]
  decide
theorem y_ATyz {n : Nat} : y_ATy n x_z0 := fun _ _ => y_Ty0
theorem y_ARsz {n : Nat} : y_ARs n x_z0 := fun _ _ => Or.inr y_Ty0
theorem y_AInz : y_AIn x_z0 x_z0 x_z0 := fun _ _ => by
  show y_In 0 0 0
  have e := y_0
  unfold y_In
  refine ⟨by omega, by omega, ?_, ?_, ?_, ?_, ?_, ?_, ?_, ?_, ?_⟩ <;> (intro h; first | omega | (exfalso; omega))
theorem y_RIz {n : Int} (h : n ≤ 0) {lo hi : Int} : y_RI n lo hi x_z0 := y_RI0 h
theorem y_Upz : y_Up x_up9 := ⟨rfl, fun k h1 h2 => by
  have e : x_up9 k = 0 := if_neg (by omega)
  rw [e, y_0]
  omega⟩
theorem y_NIz : y_NI 1 x_z0 := fun k hk => by
  have e : (x_z0 k).toInt = 0 := rfl
  rw [e]
  omega
theorem y_Pz {n : Int} (hn : n = 1) : y_P n x_z0 := fun k hk => by
  subst hn
  have e : (x_z0 k).toInt = 0 := rfl
  rw [e]
  omega
theorem y_PNz {n : Int} (hn : n = 1) : y_PN n x_z0 := fun k hk => by
  subst hn
  have e : (x_z0 k).toInt = 0 := rfl
  rw [e]
  omega
theorem y_U0 : y_U 4 x_z0 x_face 0 0 x_z0 0 0 4 x_up9 x_face 0 0 x_z0 0 0 := by
  refine ⟨rfl, rfl, fun k hk => ?_, rfl, rfl, ⟨fun k hk => rfl, fun k hk => rfl⟩, rfl, rfl⟩
  have e : x_up9 k = 0 := if_neg (by omega)
  rw [e]
  rfl
theorem y_U20 : y_U2 4 x_z0 x_face 0 0 x_z0 0 0 0 x_z0 x_z0 x_z0 4 x_up9 x_face 0 0 x_z0 0 0 0 x_z0 x_z0 := ⟨y_U0, rfl, rfl, y_SC0 (by decide)⟩
theorem y_Fa0 : y_Fa (4 : Int32).toInt x_up9 x_face := by
  have e4 : (4 : Int32).toInt = 4 := rfl
  refine ⟨fun k h1 h2 => ?_, rfl, fun k h1 h2 => ?_⟩
  · have e : x_up9 k = 0 := if_neg (by omega)
    rw [e]
    exact ⟨rfl, fun _ => rfl⟩
  · have e : x_up9 k = 0 := if_neg (by omega)
    rw [e]
    rfl
theorem y_U30 : y_U3 4 x_z0 x_face 0 0 x_z0 0 0 0 x_z0 x_z0 x_z0 4 x_up9 x_face 0 0 x_z0 0 0 0 x_z0 x_z0 := ⟨y_U20, y_Fa0⟩
theorem y_K70 : y_K7 4 x_z0 := by
  refine ⟨?_, ?_, ?_⟩ <;> (first | decide | (with_reducible exact y_Rgz (by decide) (by decide)) | (with_reducible exact y_ATyz) | (with_reducible exact y_ARsz) | (with_reducible exact y_AInz) | (with_reducible exact y_AV_z0 _) | (with_reducible exact y_SB0 (by decide)) | (with_reducible exact y_RW0 (by decide)) | (with_reducible exact y_Pz (by decide)) | (with_reducible exact y_PNz (by decide)) | (with_reducible exact y_RI0 (by decide)) | (with_reducible exact y_Wd0 rfl) | (with_reducible exact y_Db.rf _) | (with_reducible exact y_Upz) | (with_reducible exact y_TB0 rfl rfl) | (with_reducible exact y_NIz) | (with_reducible exact y_Told0 rfl (by decide) (by decide) (by decide) (by decide)) | (exact Or.inl rfl) | rfl | omega)
theorem y_K40 : y_K4 0 0 x_z0 x_z0 x_z0 x_z0 x_z0 x_z0 := by
  refine ⟨?_, ?_, ?_, ?_, ?_, ?_, ?_, ?_, ?_, ?_⟩ <;> (first | decide | (with_reducible exact y_Rgz (by decide) (by decide)) | (with_reducible exact y_ATyz) | (with_reducible exact y_ARsz) | (with_reducible exact y_AInz) | (with_reducible exact y_AV_z0 _) | (with_reducible exact y_SB0 (by decide)) | (with_reducible exact y_RW0 (by decide)) | (with_reducible exact y_Pz (by decide)) | (with_reducible exact y_PNz (by decide)) | (with_reducible exact y_RI0 (by decide)) | (with_reducible exact y_Wd0 rfl) | (with_reducible exact y_Db.rf _) | (with_reducible exact y_Upz) | (with_reducible exact y_TB0 rfl rfl) | (with_reducible exact y_NIz) | (with_reducible exact y_Told0 rfl (by decide) (by decide) (by decide) (by decide)) | (exact Or.inl rfl) | rfl | omega)
theorem y_K00 : y_K0 0 (-1) 0 0 0 0 0 x_z0 x_z0 x_z0 x_z0 x_z0 64 x_z0 x_z0 x_z0 := by
  refine ⟨?_, ?_, ?_, ?_, ?_, ?_, ?_, ?_, ?_, ?_, ?_, ?_, ?_, ?_, ?_, ?_, ?_, ?_, ?_, ?_⟩ <;> (first | decide | (with_reducible exact y_Rgz (by decide) (by decide)) | (with_reducible exact y_ATyz) | (with_reducible exact y_ARsz) | (with_reducible exact y_AInz) | (with_reducible exact y_AV_z0 _) | (with_reducible exact y_SB0 (by decide)) | (with_reducible exact y_RW0 (by decide)) | (with_reducible exact y_Pz (by decide)) | (with_reducible exact y_PNz (by decide)) | (with_reducible exact y_RI0 (by decide)) | (with_reducible exact y_Wd0 rfl) | (with_reducible exact y_Db.rf _) | (with_reducible exact y_Upz) | (with_reducible exact y_TB0 rfl rfl) | (with_reducible exact y_NIz) | (with_reducible exact y_Told0 rfl (by decide) (by decide) (by decide) (by decide)) | (exact Or.inl rfl) | rfl | omega)
theorem y_K10 : y_K1 1 x_z0 16 16 x_z0 16 16 x_z0 16 := by
  refine ⟨?_, ?_, ?_, ?_, ?_, ?_, ?_, ?_, ?_, ?_, ?_, ?_⟩ <;> (first | decide | (with_reducible exact y_Rgz (by decide) (by decide)) | (with_reducible exact y_ATyz) | (with_reducible exact y_ARsz) | (with_reducible exact y_AInz) | (with_reducible exact y_AV_z0 _) | (with_reducible exact y_SB0 (by decide)) | (with_reducible exact y_RW0 (by decide)) | (with_reducible exact y_Pz (by decide)) | (with_reducible exact y_PNz (by decide)) | (with_reducible exact y_RI0 (by decide)) | (with_reducible exact y_Wd0 rfl) | (with_reducible exact y_Db.rf _) | (with_reducible exact y_Upz) | (with_reducible exact y_TB0 rfl rfl) | (with_reducible exact y_NIz) | (with_reducible exact y_Told0 rfl (by decide) (by decide) (by decide) (by decide)) | (exact Or.inl rfl) | rfl | omega)
theorem y_K30 : y_K3 1 0 0 0 x_z0 1024 32 x_z0 32 x_z0 32 32 32 32 x_z0 32 32 := by
  refine ⟨?_, ?_, ?_, ?_, ?_, ?_, ?_, ?_, ?_, ?_, ?_, ?_, ?_, ?_, ?_, ?_, ?_, ?_, ?_, ?_, ?_, ?_, ?_, ?_⟩ <;> (first | decide | (with_reducible exact y_Rgz (by decide) (by decide)) | (with_reducible exact y_ATyz) | (with_reducible exact y_ARsz) | (with_reducible exact y_AInz) | (with_reducible exact y_AV_z0 _) | (with_reducible exact y_SB0 (by decide)) | (with_reducible exact y_RW0 (by decide)) | (with_reducible exact y_Pz (by decide)) | (with_reducible exact y_PNz (by decide)) | (with_reducible exact y_RI0 (by decide)) | (with_reducible exact y_Wd0 rfl) | (with_reducible exact y_Db.rf _) | (with_reducible exact y_Upz) | (with_reducible exact y_TB0 rfl rfl) | (with_reducible exact y_NIz) | (with_reducible exact y_Told0 rfl (by decide) (by decide) (by decide) (by decide)) | (exact Or.inl rfl) | rfl | omega)
theorem y_K50 : y_K5 0 x_z0 := by
  refine ⟨?_, ?_, ?_⟩ <;> (first | decide | (with_reducible exact y_Rgz (by decide) (by decide)) | (with_reducible exact y_ATyz) | (with_reducible exact y_ARsz) | (with_reducible exact y_AInz) | (with_reducible exact y_AV_z0 _) | (with_reducible exact y_SB0 (by decide)) | (with_reducible exact y_RW0 (by decide)) | (with_reducible exact y_Pz (by decide)) | (with_reducible exact y_PNz (by decide)) | (with_reducible exact y_RI0 (by decide)) | (with_reducible exact y_Wd0 rfl) | (with_reducible exact y_Db.rf _) | (with_reducible exact y_Upz) | (with_reducible exact y_TB0 rfl rfl) | (with_reducible exact y_NIz) | (with_reducible exact y_Told0 rfl (by decide) (by decide) (by decide) (by decide)) | (exact Or.inl rfl) | rfl | omega)
theorem y_Ka0 : y_Ka 4 x_up9 := by
  refine ⟨?_, ?_, ?_⟩ <;> (first | decide | (with_reducible exact y_Rgz (by decide) (by decide)) | (with_reducible exact y_ATyz) | (with_reducible exact y_ARsz) | (with_reducible exact y_AInz) | (with_reducible exact y_AV_z0 _) | (with_reducible exact y_SB0 (by decide)) | (with_reducible exact y_RW0 (by decide)) | (with_reducible exact y_Pz (by decide)) | (with_reducible exact y_PNz (by decide)) | (with_reducible exact y_RI0 (by decide)) | (with_reducible exact y_Wd0 rfl) | (with_reducible exact y_Db.rf _) | (with_reducible exact y_Upz) | (with_reducible exact y_TB0 rfl rfl) | (with_reducible exact y_NIz) | (with_reducible exact y_Told0 rfl (by decide) (by decide) (by decide) (by decide)) | (exact Or.inl rfl) | rfl | omega)
theorem y_Kb0 : y_Kb 0 0 x_z0 x_z0 x_z0 x_z0 x_z0 x_z0 := by
  refine ⟨?_, ?_, ?_, ?_, ?_, ?_, ?_, ?_, ?_, ?_⟩ <;> (first | decide | (with_reducible exact y_Rgz (by decide) (by decide)) | (with_reducible exact y_ATyz) | (with_reducible exact y_ARsz) | (with_reducible exact y_AInz) | (with_reducible exact y_AV_z0 _) | (with_reducible exact y_SB0 (by decide)) | (with_reducible exact y_RW0 (by decide)) | (with_reducible exact y_Pz (by decide)) | (with_reducible exact y_PNz (by decide)) | (with_reducible exact y_RI0 (by decide)) | (with_reducible exact y_Wd0 rfl) | (with_reducible exact y_Db.rf _) | (with_reducible exact y_Upz) | (with_reducible exact y_TB0 rfl rfl) | (with_reducible exact y_NIz) | (with_reducible exact y_Told0 rfl (by decide) (by decide) (by decide) (by decide)) | (exact Or.inl rfl) | rfl | omega)
theorem y_Kc0 : y_Kc 0 (-1) 0 0 0 0 0 0 x_z0 x_z0 x_z0 x_z0 x_z0 x_z0 x_z0 x_z0 x_z0 := by
  refine ⟨?_, ?_, ?_, ?_, ?_, ?_, ?_, ?_, ?_, ?_, ?_, ?_, ?_, ?_, ?_, ?_, ?_, ?_, ?_⟩ <;> (first | decide | (with_reducible exact y_Rgz (by decide) (by decide)) | (with_reducible exact y_ATyz) | (with_reducible exact y_ARsz) | (with_reducible exact y_AInz) | (with_reducible exact y_AV_z0 _) | (with_reducible exact y_SB0 (by decide)) | (with_reducible exact y_RW0 (by decide)) | (with_reducible exact y_Pz (by decide)) | (with_reducible exact y_PNz (by decide)) | (with_reducible exact y_RI0 (by decide)) | (with_reducible exact y_Wd0 rfl) | (with_reducible exact y_Db.rf _) | (with_reducible exact y_Upz) | (with_reducible exact y_TB0 rfl rfl) | (with_reducible exact y_NIz) | (with_reducible exact y_Told0 rfl (by decide) (by decide) (by decide) (by decide)) | (exact Or.inl rfl) | rfl | omega)
theorem y_Kd0 : y_Kd 0 0 0 0 x_z0 x_z0 x_z0 x_z0 x_z0 x_z0 x_z0 x_z0 := by
  refine ⟨?_, ?_, ?_, ?_, ?_, ?_⟩ <;> (first | decide | (with_reducible exact y_Rgz (by decide) (by decide)) | (with_reducible exact y_ATyz) | (with_reducible exact y_ARsz) | (with_reducible exact y_AInz) | (with_reducible exact y_AV_z0 _) | (with_reducible exact y_SB0 (by decide)) | (with_reducible exact y_RW0 (by decide)) | (with_reducible exact y_Pz (by decide)) | (with_reducible exact y_PNz (by decide)) | (with_reducible exact y_RI0 (by decide)) | (with_reducible exact y_Wd0 rfl) | (with_reducible exact y_Db.rf _) | (with_reducible exact y_Upz) | (with_reducible exact y_TB0 rfl rfl) | (with_reducible exact y_NIz) | (with_reducible exact y_Told0 rfl (by decide) (by decide) (by decide) (by decide)) | (exact Or.inl rfl) | rfl | omega)
