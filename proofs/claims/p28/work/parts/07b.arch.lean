/-! the class: archive, tasting -/
theorem kd_X0_note : yX0_note.cls ≠ "java/lang/invoke/MethodHandle" ∧ yX0_note.cls ≠ "java/lang/invoke/VarHandle" ∧ (parseMethodDescriptor yX0_note.desc).map (fun d => d.parameters.length) = some 2 := by decide +kernel
theorem kd_X0_numberOf : yX0_numberOf.cls ≠ "java/lang/invoke/MethodHandle" ∧ yX0_numberOf.cls ≠ "java/lang/invoke/VarHandle" ∧ (parseMethodDescriptor yX0_numberOf.desc).map (fun d => d.parameters.length) = some 1 := by decide +kernel
theorem hin_X0_keptIfTasted_RX0 : ∀ z ∈ u_ws RX0 TX0 6, z ∈ wsX0_keptIfTasted := by decide +kernel
theorem hin_X0_take_RX0 : ∀ z ∈ u_ws RX0 TX0 6, z ∈ wsX0_take := by decide +kernel
