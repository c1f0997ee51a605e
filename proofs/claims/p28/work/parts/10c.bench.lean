/-! the bench: a road -/
theorem kd_X6_run : yX6_run.cls ≠ "java/lang/invoke/MethodHandle" ∧ yX6_run.cls ≠ "java/lang/invoke/VarHandle" ∧ (parseMethodDescriptor yX6_run.desc).map (fun d => d.parameters.length) = some 1 := by decide +kernel
theorem kd_X6_slots : yX6_slots.cls ≠ "java/lang/invoke/MethodHandle" ∧ yX6_slots.cls ≠ "java/lang/invoke/VarHandle" ∧ (parseMethodDescriptor yX6_slots.desc).map (fun d => d.parameters.length) = some 1 := by decide +kernel
theorem kd_X6_told : yX6_told.cls ≠ "java/lang/invoke/MethodHandle" ∧ yX6_told.cls ≠ "java/lang/invoke/VarHandle" ∧ (parseMethodDescriptor yX6_told.desc).map (fun d => d.parameters.length) = some 3 := by decide +kernel
theorem hin_X6_run_RX6 : ∀ z ∈ u_ws RX6 TX6 8, z ∈ wsX6_run := by decide +kernel
