/-! the law: asked the same -/
theorem kd_X5_digest : yX5_digest.cls ≠ "java/lang/invoke/MethodHandle" ∧ yX5_digest.cls ≠ "java/lang/invoke/VarHandle" ∧ (parseMethodDescriptor yX5_digest.desc).map (fun d => d.parameters.length) = some 0 := by decide +kernel
theorem kd_X5_otherwise : yX5_otherwise.cls ≠ "java/lang/invoke/MethodHandle" ∧ yX5_otherwise.cls ≠ "java/lang/invoke/VarHandle" ∧ (parseMethodDescriptor yX5_otherwise.desc).map (fun d => d.parameters.length) = some 3 := by decide +kernel
