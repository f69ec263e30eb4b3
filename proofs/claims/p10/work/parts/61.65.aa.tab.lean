set_option maxRecDepth 100000 in
set_option maxHeartbeats 8000000 in
theorem k_kd : ∀ j < 599, c_kd (c_F j) = k_T j := by decide +kernel
set_option maxRecDepth 100000 in
set_option maxHeartbeats 8000000 in
theorem k_z : ∀ j < 599, j = 0 ∨ j = 552 ∨ c_z (c_F j) = true := by decide +kernel
set_option maxRecDepth 100000 in
set_option maxHeartbeats 8000000 in
theorem k_FAddr : ∀ j < 599, k_T j = 1 → c_pt (c_F j) 0 = some (j + 1) := by decide +kernel
set_option maxRecDepth 100000 in
set_option maxHeartbeats 8000000 in
theorem k_FCmd : ∀ j < 599, k_T j = 2 → c_pt (c_F j) 0 = some (j + 1) ∧ c_pt (c_F j) 1 = some (j + 3) ∧ c_pt (c_F j) 2 = some (j + 5) := by decide +kernel
set_option maxRecDepth 100000 in
set_option maxHeartbeats 8000000 in
theorem k_FEd : ∀ j < 599, k_T j = 4 → c_pt (c_F j) 0 = some (j + 1) ∧ c_pt (c_F j) 7 = some (j + 7) ∧ c_pt (c_F j) 8 = some (j + 9) := by decide +kernel
set_option maxRecDepth 100000 in
set_option maxHeartbeats 8000000 in
theorem k_FIt : ∀ j < 599, k_T j = 5 → c_pt (c_F j) 0 = some (j + 1) ∧ c_pt (c_F j) 1 = some (j + 2) ∧ c_pt (c_F j) 2 = some (j + 3) ∧ c_pt (c_F j) 3 = some (j + 4) := by decide +kernel
set_option maxRecDepth 100000 in
set_option maxHeartbeats 8000000 in
theorem k_FMa : ∀ j < 599, k_T j = 6 → c_pt (c_F j) 5 = some (j + 1) ∧ c_pt (c_F j) 6 = some (j + 2) ∧ c_pt (c_F j) 7 = some (j + 3) ∧ c_pt (c_F j) 8 = some (j + 4) := by decide +kernel
set_option maxRecDepth 100000 in
set_option maxHeartbeats 8000000 in
theorem k_FPa : ∀ j < 599, k_T j = 7 → c_pt (c_F j) 0 = some (j + 1) ∧ c_pt (c_F j) 1 = some (j + 2) ∧ c_pt (c_F j) 2 = some (j + 3) ∧ c_pt (c_F j) 3 = some (j + 4) := by decide +kernel
set_option maxRecDepth 100000 in
set_option maxHeartbeats 8000000 in
theorem k_FProg : ∀ j < 599, k_T j = 10 → c_pt (c_F j) 0 = some (j + 1) ∧ c_pt (c_F j) 1 = some (j + 3) ∧ c_pt (c_F j) 2 = some (j + 8) := by decide +kernel
set_option maxRecDepth 100000 in
set_option maxHeartbeats 8000000 in
theorem k_FSF : ∀ j < 599, k_T j = 12 → c_pt (c_F j) 0 = some (j + 1) ∧ c_pt (c_F j) 1 = some (j + 3) ∧ c_pt (c_F j) 2 = some (j + 4) ∧ c_pt (c_F j) 3 = some (j + 9) ∧ c_pt (c_F j) 4 = some (j + 25) := by decide +kernel
set_option maxRecDepth 100000 in
set_option maxHeartbeats 8000000 in
theorem k_FRow : ∀ j < 599, k_T j = 11 → c_pt (c_F j) 0 = some (j + 1) := by decide +kernel
