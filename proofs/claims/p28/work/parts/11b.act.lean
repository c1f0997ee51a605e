/-! the bench: its acts, more -/
theorem kd_X5_generate : yX5_generate.cls ≠ "java/lang/invoke/MethodHandle" ∧ yX5_generate.cls ≠ "java/lang/invoke/VarHandle" ∧ (parseMethodDescriptor yX5_generate.desc).map (fun d => d.parameters.length) = some 0 := by decide +kernel
theorem kd_X5_mutate : yX5_mutate.cls ≠ "java/lang/invoke/MethodHandle" ∧ yX5_mutate.cls ≠ "java/lang/invoke/VarHandle" ∧ (parseMethodDescriptor yX5_mutate.desc).map (fun d => d.parameters.length) = some 0 := by decide +kernel
theorem kd_X5_relation : yX5_relation.cls ≠ "java/lang/invoke/MethodHandle" ∧ yX5_relation.cls ≠ "java/lang/invoke/VarHandle" ∧ (parseMethodDescriptor yX5_relation.desc).map (fun d => d.parameters.length) = some 3 := by decide +kernel
theorem kd_X6_energy : yX6_energy.cls ≠ "java/lang/invoke/MethodHandle" ∧ yX6_energy.cls ≠ "java/lang/invoke/VarHandle" ∧ (parseMethodDescriptor yX6_energy.desc).map (fun d => d.parameters.length) = some 1 := by decide +kernel
theorem kd_X6_make : yX6_make.cls ≠ "java/lang/invoke/MethodHandle" ∧ yX6_make.cls ≠ "java/lang/invoke/VarHandle" ∧ (parseMethodDescriptor yX6_make.desc).map (fun d => d.parameters.length) = some 0 := by decide +kernel
theorem hin_X6_generate_RX6 : ∀ z ∈ u_ws RX6 TX6 8, z ∈ wsX6_generate := by decide +kernel
theorem hin_X6_mutate_RX6 : ∀ z ∈ u_ws RX6 TX6 8, z ∈ wsX6_mutate := by decide +kernel
theorem hin_X6_relation_RX6 : ∀ z ∈ u_ws RX6 TX6 8, z ∈ wsX6_relation := by decide +kernel
