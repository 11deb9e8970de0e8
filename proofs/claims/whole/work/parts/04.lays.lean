/-! where each field lies -/
set_option maxRecDepth 20000 in
theorem i_B : ∀ w ∈ u_ws R_B T_B 8, w ∈ bw := by decide +kernel
set_option maxRecDepth 20000 in
theorem i_K : ∀ w ∈ u_ws R_K T_K 3, w ∈ bw := by decide +kernel
set_option maxRecDepth 20000 in
theorem i_P : ∀ w ∈ u_ws R_P T_P 8, w ∈ bw := by decide +kernel
set_option maxRecDepth 20000 in
theorem i_S : ∀ w ∈ u_ws R_S T_S 4, w ∈ bw := by decide +kernel
set_option maxRecDepth 20000 in
theorem i_M : ∀ w ∈ u_ws R_M T_M 24, w ∈ bw := by decide +kernel
