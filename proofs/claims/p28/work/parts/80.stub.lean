def σ0 : St := ((fun k => if k = 3 then (fun _ => (-1)) else if k = 11 then (fun _ => (-1)) else fun _ => 0), fun _ => 0)
theorem law_pure (xs : Nat → Int32) (L : Nat) : mL_law xs L σ0 = some () := sorry
