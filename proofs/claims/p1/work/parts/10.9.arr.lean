/-! new arrays -/
theorem x_zcI (cA : ClassId) (N : Nat) : vp_cell cA (N, .inl x_z0) = arrV cA N (fun _ => defaultValue .int) := rfl
theorem x_zcZ (cA : ClassId) (N : Nat) : vp_cell cA (N, .inl x_z0) = arrV cA N (fun _ => defaultValue .boolean) := rfl
theorem x_zcJ (cA : ClassId) (N : Nat) : vp_cell cA (N, .inr (.inl x_zL)) = arrV cA N (fun _ => defaultValue .long) := rfl
