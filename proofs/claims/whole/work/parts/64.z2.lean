def z0I : Nat → Int := fun _ => 0
theorem z_defI (n : Nat) (cA : ClassId) : vp_cell cA (n, .inl (fun j => zI (z0I j))) = arrV cA n (fun _ => defaultValue .int) := rfl
