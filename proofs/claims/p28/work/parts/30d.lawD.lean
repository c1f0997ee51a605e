/-! the law: the smallest, would-be droppings -/
theorem kd_X5_smallest : yX5_smallest.cls ≠ "java/lang/invoke/MethodHandle" ∧ yX5_smallest.cls ≠ "java/lang/invoke/VarHandle" ∧ (parseMethodDescriptor yX5_smallest.desc).map (fun d => d.parameters.length) = some 2 := by decide +kernel
