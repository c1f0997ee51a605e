/-! the bench: dropping -/
theorem kd_X6_drop : yX6_drop.cls ≠ "java/lang/invoke/MethodHandle" ∧ yX6_drop.cls ≠ "java/lang/invoke/VarHandle" ∧ (parseMethodDescriptor yX6_drop.desc).map (fun d => d.parameters.length) = some 0 := by decide +kernel
theorem kd_X6_isNeeded : yX6_isNeeded.cls ≠ "java/lang/invoke/MethodHandle" ∧ yX6_isNeeded.cls ≠ "java/lang/invoke/VarHandle" ∧ (parseMethodDescriptor yX6_isNeeded.desc).map (fun d => d.parameters.length) = some 1 := by decide +kernel
theorem kd_X6_kept : yX6_kept.cls ≠ "java/lang/invoke/MethodHandle" ∧ yX6_kept.cls ≠ "java/lang/invoke/VarHandle" ∧ (parseMethodDescriptor yX6_kept.desc).map (fun d => d.parameters.length) = some 0 := by decide +kernel
theorem hin_X6_change_RX6 : ∀ z ∈ u_ws RX6 TX6 8, z ∈ wsX6_change := by decide +kernel
theorem hin_X6_drop_RX6 : ∀ z ∈ u_ws RX6 TX6 8, z ∈ wsX6_drop := by decide +kernel
