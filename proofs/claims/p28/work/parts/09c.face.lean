/-! the class: its face, questions -/
theorem kd_J13_numberOfTrailingZeros_95d88 : yJ13_numberOfTrailingZeros_95d88.cls ≠ "java/lang/invoke/MethodHandle" ∧ yJ13_numberOfTrailingZeros_95d88.cls ≠ "java/lang/invoke/VarHandle" ∧ (parseMethodDescriptor yJ13_numberOfTrailingZeros_95d88.desc).map (fun d => d.parameters.length) = some 1 := by decide +kernel
theorem kd_J6_numberOfTrailingZeros_0f7a4 : yJ6_numberOfTrailingZeros_0f7a4.cls ≠ "java/lang/invoke/MethodHandle" ∧ yJ6_numberOfTrailingZeros_0f7a4.cls ≠ "java/lang/invoke/VarHandle" ∧ (parseMethodDescriptor yJ6_numberOfTrailingZeros_0f7a4.desc).map (fun d => d.parameters.length) = some 1 := by decide +kernel
theorem kd_X0_allKnown : yX0_allKnown.cls ≠ "java/lang/invoke/MethodHandle" ∧ yX0_allKnown.cls ≠ "java/lang/invoke/VarHandle" ∧ (parseMethodDescriptor yX0_allKnown.desc).map (fun d => d.parameters.length) = some 0 := by decide +kernel
theorem kd_X0_coverersOf : yX0_coverersOf.cls ≠ "java/lang/invoke/MethodHandle" ∧ yX0_coverersOf.cls ≠ "java/lang/invoke/VarHandle" ∧ (parseMethodDescriptor yX0_coverersOf.desc).map (fun d => d.parameters.length) = some 1 := by decide +kernel
theorem kd_X0_wholeEnergy : yX0_wholeEnergy.cls ≠ "java/lang/invoke/MethodHandle" ∧ yX0_wholeEnergy.cls ≠ "java/lang/invoke/VarHandle" ∧ (parseMethodDescriptor yX0_wholeEnergy.desc).map (fun d => d.parameters.length) = some 0 := by decide +kernel
theorem kd_X2_reachableNodes : yX2_reachableNodes.cls ≠ "java/lang/invoke/MethodHandle" ∧ yX2_reachableNodes.cls ≠ "java/lang/invoke/VarHandle" ∧ (parseMethodDescriptor yX2_reachableNodes.desc).map (fun d => d.parameters.length) = some 0 := by decide +kernel
theorem kd_X5_fewestFrom : yX5_fewestFrom.cls ≠ "java/lang/invoke/MethodHandle" ∧ yX5_fewestFrom.cls ≠ "java/lang/invoke/VarHandle" ∧ (parseMethodDescriptor yX5_fewestFrom.desc).map (fun d => d.parameters.length) = some 6 := by decide +kernel
theorem hin_X5_fewest_RX0 : ∀ z ∈ u_ws RX0 TX0 6, z ∈ wsX5_fewest := by decide +kernel
theorem hin_X5_fewest_RX5 : ∀ z ∈ u_ws RX5 TX5 5, z ∈ wsX5_fewest := by decide +kernel
theorem hin_X5_many_RX0 : ∀ z ∈ u_ws RX0 TX0 6, z ∈ wsX5_many := by decide +kernel
theorem hin_X5_many_RX1 : ∀ z ∈ u_ws RX1 TX1 4, z ∈ wsX5_many := by decide +kernel
theorem hin_X5_many_RX3 : ∀ z ∈ u_ws RX3 TX3 4, z ∈ wsX5_many := by decide +kernel
theorem hin_X5_many_RX5 : ∀ z ∈ u_ws RX5 TX5 5, z ∈ wsX5_many := by decide +kernel
theorem hin_X5_meanEnergy_RX0 : ∀ z ∈ u_ws RX0 TX0 6, z ∈ wsX5_meanEnergy := by decide +kernel
theorem hin_X5_meanEnergy_RX5 : ∀ z ∈ u_ws RX5 TX5 5, z ∈ wsX5_meanEnergy := by decide +kernel
theorem hin_X5_ofEdge_RX0 : ∀ z ∈ u_ws RX0 TX0 6, z ∈ wsX5_ofEdge := by decide +kernel
theorem hin_X5_ofEdge_RX5 : ∀ z ∈ u_ws RX5 TX5 5, z ∈ wsX5_ofEdge := by decide +kernel
theorem hin_X5_ofKnown_RX0 : ∀ z ∈ u_ws RX0 TX0 6, z ∈ wsX5_ofKnown := by decide +kernel
theorem hin_X5_ofKnown_RX5 : ∀ z ∈ u_ws RX5 TX5 5, z ∈ wsX5_ofKnown := by decide +kernel
