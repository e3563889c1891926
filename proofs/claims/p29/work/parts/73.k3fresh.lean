theorem RS_fresh : RS k_G0 k_V0 s_new 0 := by
  refine RS_new rfl rfl (fun i hi => ?_) rfl (fun i hi => rfl)
  rcases (show i = 0 ∨ i = 1 ∨ i = 2 ∨ i = 3 by omega) with rfl | rfl | rfl | rfl <;> rfl
