/-! the bench: energies, draws -/
theorem kd_X6_drawn : yX6_drawn.cls ≠ "java/lang/invoke/MethodHandle" ∧ yX6_drawn.cls ≠ "java/lang/invoke/VarHandle" ∧ (parseMethodDescriptor yX6_drawn.desc).map (fun d => d.parameters.length) = some 1 := by decide +kernel
theorem kd_X6_tell : yX6_tell.cls ≠ "java/lang/invoke/MethodHandle" ∧ yX6_tell.cls ≠ "java/lang/invoke/VarHandle" ∧ (parseMethodDescriptor yX6_tell.desc).map (fun d => d.parameters.length) = some 1 := by decide +kernel
theorem hin_X6_drawn_RX6 : ∀ z ∈ u_ws RX6 TX6 8, z ∈ wsX6_drawn := by decide +kernel
theorem hin_X6_energy_RX6 : ∀ z ∈ u_ws RX6 TX6 8, z ∈ wsX6_energy := by decide +kernel
theorem hin_X6_make_RX6 : ∀ z ∈ u_ws RX6 TX6 8, z ∈ wsX6_make := by decide +kernel
