/-! the law: a case and its road -/
theorem kd_X5_edge : yX5_edge.cls ≠ "java/lang/invoke/MethodHandle" ∧ yX5_edge.cls ≠ "java/lang/invoke/VarHandle" ∧ (parseMethodDescriptor yX5_edge.desc).map (fun d => d.parameters.length) = some 2 := by decide +kernel
