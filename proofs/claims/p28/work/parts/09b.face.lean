/-! the class: its face, more -/
theorem kd_X3_add : yX3_add.cls ≠ "java/lang/invoke/MethodHandle" ∧ yX3_add.cls ≠ "java/lang/invoke/VarHandle" ∧ (parseMethodDescriptor yX3_add.desc).map (fun d => d.parameters.length) = some 3 := by decide +kernel
theorem kd_X3_changed : yX3_changed.cls ≠ "java/lang/invoke/MethodHandle" ∧ yX3_changed.cls ≠ "java/lang/invoke/VarHandle" ∧ (parseMethodDescriptor yX3_changed.desc).map (fun d => d.parameters.length) = some 2 := by decide +kernel
theorem kd_X5_checkEdge : yX5_checkEdge.cls ≠ "java/lang/invoke/MethodHandle" ∧ yX5_checkEdge.cls ≠ "java/lang/invoke/VarHandle" ∧ (parseMethodDescriptor yX5_checkEdge.desc).map (fun d => d.parameters.length) = some 1 := by decide +kernel
theorem kd_X5_checkRelation : yX5_checkRelation.cls ≠ "java/lang/invoke/MethodHandle" ∧ yX5_checkRelation.cls ≠ "java/lang/invoke/VarHandle" ∧ (parseMethodDescriptor yX5_checkRelation.desc).map (fun d => d.parameters.length) = some 1 := by decide +kernel
theorem kd_X5_shrunk : yX5_shrunk.cls ≠ "java/lang/invoke/MethodHandle" ∧ yX5_shrunk.cls ≠ "java/lang/invoke/VarHandle" ∧ (parseMethodDescriptor yX5_shrunk.desc).map (fun d => d.parameters.length) = some 2 := by decide +kernel
theorem kd_X5_shrunkAt : yX5_shrunkAt.cls ≠ "java/lang/invoke/MethodHandle" ∧ yX5_shrunkAt.cls ≠ "java/lang/invoke/VarHandle" ∧ (parseMethodDescriptor yX5_shrunkAt.desc).map (fun d => d.parameters.length) = some 3 := by decide +kernel
theorem hin_X5_ahead_RX1 : ∀ z ∈ u_ws RX1 TX1 4, z ∈ wsX5_ahead := by decide +kernel
theorem hin_X5_ahead_RX5 : ∀ z ∈ u_ws RX5 TX5 5, z ∈ wsX5_ahead := by decide +kernel
theorem hin_X5_breaks_RX5 : ∀ z ∈ u_ws RX5 TX5 5, z ∈ wsX5_breaks := by decide +kernel
theorem hin_X5_brokenBy_RX0 : ∀ z ∈ u_ws RX0 TX0 6, z ∈ wsX5_brokenBy := by decide +kernel
theorem hin_X5_brokenBy_RX5 : ∀ z ∈ u_ws RX5 TX5 5, z ∈ wsX5_brokenBy := by decide +kernel
theorem hin_X5_otherwise_RX0 : ∀ z ∈ u_ws RX0 TX0 6, z ∈ wsX5_otherwise := by decide +kernel
theorem hin_X5_otherwise_RX2 : ∀ z ∈ u_ws RX2 TX2 5, z ∈ wsX5_otherwise := by decide +kernel
theorem hin_X5_otherwise_RX5 : ∀ z ∈ u_ws RX5 TX5 5, z ∈ wsX5_otherwise := by decide +kernel
theorem hin_X5_relation_RX3 : ∀ z ∈ u_ws RX3 TX3 4, z ∈ wsX5_relation := by decide +kernel
theorem hin_X5_relation_RX5 : ∀ z ∈ u_ws RX5 TX5 5, z ∈ wsX5_relation := by decide +kernel
theorem hin_X5_smallest_RX4 : ∀ z ∈ u_ws RX4 TX4 4, z ∈ wsX5_smallest := by decide +kernel
theorem hin_X5_smallest_RX5 : ∀ z ∈ u_ws RX5 TX5 5, z ∈ wsX5_smallest := by decide +kernel
theorem hin_X5_wouldDrop_RX0 : ∀ z ∈ u_ws RX0 TX0 6, z ∈ wsX5_wouldDrop := by decide +kernel
theorem hin_X5_wouldDrop_RX5 : ∀ z ∈ u_ws RX5 TX5 5, z ∈ wsX5_wouldDrop := by decide +kernel
