/-! the class: digest -/
theorem kd_X5_ahead : yX5_ahead.cls ≠ "java/lang/invoke/MethodHandle" ∧ yX5_ahead.cls ≠ "java/lang/invoke/VarHandle" ∧ (parseMethodDescriptor yX5_ahead.desc).map (fun d => d.parameters.length) = some 1 := by decide +kernel
theorem kd_X5_brokenBy : yX5_brokenBy.cls ≠ "java/lang/invoke/MethodHandle" ∧ yX5_brokenBy.cls ≠ "java/lang/invoke/VarHandle" ∧ (parseMethodDescriptor yX5_brokenBy.desc).map (fun d => d.parameters.length) = some 1 := by decide +kernel
theorem kd_X5_covers : yX5_covers.cls ≠ "java/lang/invoke/MethodHandle" ∧ yX5_covers.cls ≠ "java/lang/invoke/VarHandle" ∧ (parseMethodDescriptor yX5_covers.desc).map (fun d => d.parameters.length) = some 1 := by decide +kernel
theorem kd_X5_digestOfEdges : yX5_digestOfEdges.cls ≠ "java/lang/invoke/MethodHandle" ∧ yX5_digestOfEdges.cls ≠ "java/lang/invoke/VarHandle" ∧ (parseMethodDescriptor yX5_digestOfEdges.desc).map (fun d => d.parameters.length) = some 1 := by decide +kernel
theorem kd_X5_digestOfKnown : yX5_digestOfKnown.cls ≠ "java/lang/invoke/MethodHandle" ∧ yX5_digestOfKnown.cls ≠ "java/lang/invoke/VarHandle" ∧ (parseMethodDescriptor yX5_digestOfKnown.desc).map (fun d => d.parameters.length) = some 1 := by decide +kernel
theorem kd_X5_fewest : yX5_fewest.cls ≠ "java/lang/invoke/MethodHandle" ∧ yX5_fewest.cls ≠ "java/lang/invoke/VarHandle" ∧ (parseMethodDescriptor yX5_fewest.desc).map (fun d => d.parameters.length) = some 0 := by decide +kernel
theorem kd_X5_many : yX5_many.cls ≠ "java/lang/invoke/MethodHandle" ∧ yX5_many.cls ≠ "java/lang/invoke/VarHandle" ∧ (parseMethodDescriptor yX5_many.desc).map (fun d => d.parameters.length) = some 1 := by decide +kernel
theorem kd_X5_ofEdge : yX5_ofEdge.cls ≠ "java/lang/invoke/MethodHandle" ∧ yX5_ofEdge.cls ≠ "java/lang/invoke/VarHandle" ∧ (parseMethodDescriptor yX5_ofEdge.desc).map (fun d => d.parameters.length) = some 2 := by decide +kernel
theorem kd_X5_ofKnown : yX5_ofKnown.cls ≠ "java/lang/invoke/MethodHandle" ∧ yX5_ofKnown.cls ≠ "java/lang/invoke/VarHandle" ∧ (parseMethodDescriptor yX5_ofKnown.desc).map (fun d => d.parameters.length) = some 2 := by decide +kernel
theorem kd_X5_run : yX5_run.cls ≠ "java/lang/invoke/MethodHandle" ∧ yX5_run.cls ≠ "java/lang/invoke/VarHandle" ∧ (parseMethodDescriptor yX5_run.desc).map (fun d => d.parameters.length) = some 1 := by decide +kernel
theorem kd_X5_wouldDrop : yX5_wouldDrop.cls ≠ "java/lang/invoke/MethodHandle" ∧ yX5_wouldDrop.cls ≠ "java/lang/invoke/VarHandle" ∧ (parseMethodDescriptor yX5_wouldDrop.desc).map (fun d => d.parameters.length) = some 1 := by decide +kernel
theorem hin_X5_digestOfKnown_RX0 : ∀ z ∈ u_ws RX0 TX0 6, z ∈ wsX5_digestOfKnown := by decide +kernel
theorem hin_X5_digestOfKnown_RX5 : ∀ z ∈ u_ws RX5 TX5 5, z ∈ wsX5_digestOfKnown := by decide +kernel
theorem hin_X5_digest_RX3 : ∀ z ∈ u_ws RX3 TX3 4, z ∈ wsX5_digest := by decide +kernel
theorem hin_X5_digest_RX5 : ∀ z ∈ u_ws RX5 TX5 5, z ∈ wsX5_digest := by decide +kernel
