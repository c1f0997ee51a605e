/-! the law: shrinking -/
theorem kd_X5_shrink : yX5_shrink.cls ≠ "java/lang/invoke/MethodHandle" ∧ yX5_shrink.cls ≠ "java/lang/invoke/VarHandle" ∧ (parseMethodDescriptor yX5_shrink.desc).map (fun d => d.parameters.length) = some 1 := by decide +kernel
