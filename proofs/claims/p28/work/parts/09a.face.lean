/-! the class: its face, tasting and changes -/
theorem kd_X0_keptIfTasted : yX0_keptIfTasted.cls ≠ "java/lang/invoke/MethodHandle" ∧ yX0_keptIfTasted.cls ≠ "java/lang/invoke/VarHandle" ∧ (parseMethodDescriptor yX0_keptIfTasted.desc).map (fun d => d.parameters.length) = some 2 := by decide +kernel
theorem kd_X0_mostEnergetic : yX0_mostEnergetic.cls ≠ "java/lang/invoke/MethodHandle" ∧ yX0_mostEnergetic.cls ≠ "java/lang/invoke/VarHandle" ∧ (parseMethodDescriptor yX0_mostEnergetic.desc).map (fun d => d.parameters.length) = some 0 := by decide +kernel
theorem kd_X0_settle : yX0_settle.cls ≠ "java/lang/invoke/MethodHandle" ∧ yX0_settle.cls ≠ "java/lang/invoke/VarHandle" ∧ (parseMethodDescriptor yX0_settle.desc).map (fun d => d.parameters.length) = some 0 := by decide +kernel
theorem kd_X0_take : yX0_take.cls ≠ "java/lang/invoke/MethodHandle" ∧ yX0_take.cls ≠ "java/lang/invoke/VarHandle" ∧ (parseMethodDescriptor yX0_take.desc).map (fun d => d.parameters.length) = some 1 := by decide +kernel
theorem kd_X1_mutantOf : yX1_mutantOf.cls ≠ "java/lang/invoke/MethodHandle" ∧ yX1_mutantOf.cls ≠ "java/lang/invoke/VarHandle" ∧ (parseMethodDescriptor yX1_mutantOf.desc).map (fun d => d.parameters.length) = some 1 := by decide +kernel
theorem kd_X1_nextCase : yX1_nextCase.cls ≠ "java/lang/invoke/MethodHandle" ∧ yX1_nextCase.cls ≠ "java/lang/invoke/VarHandle" ∧ (parseMethodDescriptor yX1_nextCase.desc).map (fun d => d.parameters.length) = some 0 := by decide +kernel
theorem kd_X1_setWeights : yX1_setWeights.cls ≠ "java/lang/invoke/MethodHandle" ∧ yX1_setWeights.cls ≠ "java/lang/invoke/VarHandle" ∧ (parseMethodDescriptor yX1_setWeights.desc).map (fun d => d.parameters.length) = some 4 := by decide +kernel
theorem kd_X2_setBad : yX2_setBad.cls ≠ "java/lang/invoke/MethodHandle" ∧ yX2_setBad.cls ≠ "java/lang/invoke/VarHandle" ∧ (parseMethodDescriptor yX2_setBad.desc).map (fun d => d.parameters.length) = some 2 := by decide +kernel
theorem kd_X2_setQuestion : yX2_setQuestion.cls ≠ "java/lang/invoke/MethodHandle" ∧ yX2_setQuestion.cls ≠ "java/lang/invoke/VarHandle" ∧ (parseMethodDescriptor yX2_setQuestion.desc).map (fun d => d.parameters.length) = some 4 := by decide +kernel
theorem kd_X2_setTargets : yX2_setTargets.cls ≠ "java/lang/invoke/MethodHandle" ∧ yX2_setTargets.cls ≠ "java/lang/invoke/VarHandle" ∧ (parseMethodDescriptor yX2_setTargets.desc).map (fun d => d.parameters.length) = some 3 := by decide +kernel
theorem kd_X5_checkCase : yX5_checkCase.cls ≠ "java/lang/invoke/MethodHandle" ∧ yX5_checkCase.cls ≠ "java/lang/invoke/VarHandle" ∧ (parseMethodDescriptor yX5_checkCase.desc).map (fun d => d.parameters.length) = some 1 := by decide +kernel
theorem kd_X5_checkNode : yX5_checkNode.cls ≠ "java/lang/invoke/MethodHandle" ∧ yX5_checkNode.cls ≠ "java/lang/invoke/VarHandle" ∧ (parseMethodDescriptor yX5_checkNode.desc).map (fun d => d.parameters.length) = some 1 := by decide +kernel
theorem kd_X5_checkQuestion : yX5_checkQuestion.cls ≠ "java/lang/invoke/MethodHandle" ∧ yX5_checkQuestion.cls ≠ "java/lang/invoke/VarHandle" ∧ (parseMethodDescriptor yX5_checkQuestion.desc).map (fun d => d.parameters.length) = some 2 := by decide +kernel
theorem kd_X5_checkRoom : yX5_checkRoom.cls ≠ "java/lang/invoke/MethodHandle" ∧ yX5_checkRoom.cls ≠ "java/lang/invoke/VarHandle" ∧ (parseMethodDescriptor yX5_checkRoom.desc).map (fun d => d.parameters.length) = some 0 := by decide +kernel
theorem kd_X5_checkSlot : yX5_checkSlot.cls ≠ "java/lang/invoke/MethodHandle" ∧ yX5_checkSlot.cls ≠ "java/lang/invoke/VarHandle" ∧ (parseMethodDescriptor yX5_checkSlot.desc).map (fun d => d.parameters.length) = some 1 := by decide +kernel
theorem kd_X5_checkTarget : yX5_checkTarget.cls ≠ "java/lang/invoke/MethodHandle" ∧ yX5_checkTarget.cls ≠ "java/lang/invoke/VarHandle" ∧ (parseMethodDescriptor yX5_checkTarget.desc).map (fun d => d.parameters.length) = some 1 := by decide +kernel
theorem kd_X5_checkWeight : yX5_checkWeight.cls ≠ "java/lang/invoke/MethodHandle" ∧ yX5_checkWeight.cls ≠ "java/lang/invoke/VarHandle" ∧ (parseMethodDescriptor yX5_checkWeight.desc).map (fun d => d.parameters.length) = some 1 := by decide +kernel
theorem kd_X5_keptAfterChange : yX5_keptAfterChange.cls ≠ "java/lang/invoke/MethodHandle" ∧ yX5_keptAfterChange.cls ≠ "java/lang/invoke/VarHandle" ∧ (parseMethodDescriptor yX5_keptAfterChange.desc).map (fun d => d.parameters.length) = some 0 := by decide +kernel
theorem kd_X5_resultOf : yX5_resultOf.cls ≠ "java/lang/invoke/MethodHandle" ∧ yX5_resultOf.cls ≠ "java/lang/invoke/VarHandle" ∧ (parseMethodDescriptor yX5_resultOf.desc).map (fun d => d.parameters.length) = some 1 := by decide +kernel
theorem kd_X5_tasteOf : yX5_tasteOf.cls ≠ "java/lang/invoke/MethodHandle" ∧ yX5_tasteOf.cls ≠ "java/lang/invoke/VarHandle" ∧ (parseMethodDescriptor yX5_tasteOf.desc).map (fun d => d.parameters.length) = some 1 := by decide +kernel
theorem hin_X5_ask_RX5 : ∀ z ∈ u_ws RX5 TX5 5, z ∈ wsX5_ask := by decide +kernel
theorem hin_X5_bad_RX5 : ∀ z ∈ u_ws RX5 TX5 5, z ∈ wsX5_bad := by decide +kernel
theorem hin_X5_checkRelation_RX3 : ∀ z ∈ u_ws RX3 TX3 4, z ∈ wsX5_checkRelation := by decide +kernel
theorem hin_X5_checkRelation_RX5 : ∀ z ∈ u_ws RX5 TX5 5, z ∈ wsX5_checkRelation := by decide +kernel
theorem hin_X5_checkRoom_RX0 : ∀ z ∈ u_ws RX0 TX0 6, z ∈ wsX5_checkRoom := by decide +kernel
theorem hin_X5_checkRoom_RX5 : ∀ z ∈ u_ws RX5 TX5 5, z ∈ wsX5_checkRoom := by decide +kernel
theorem hin_X5_covers_RX4 : ∀ z ∈ u_ws RX4 TX4 4, z ∈ wsX5_covers := by decide +kernel
theorem hin_X5_covers_RX5 : ∀ z ∈ u_ws RX5 TX5 5, z ∈ wsX5_covers := by decide +kernel
theorem hin_X5_draw_RX1 : ∀ z ∈ u_ws RX1 TX1 4, z ∈ wsX5_draw := by decide +kernel
theorem hin_X5_draw_RX5 : ∀ z ∈ u_ws RX5 TX5 5, z ∈ wsX5_draw := by decide +kernel
theorem hin_X5_edge_RX4 : ∀ z ∈ u_ws RX4 TX4 4, z ∈ wsX5_edge := by decide +kernel
theorem hin_X5_edge_RX5 : ∀ z ∈ u_ws RX5 TX5 5, z ∈ wsX5_edge := by decide +kernel
theorem hin_X5_generate_RX5 : ∀ z ∈ u_ws RX5 TX5 5, z ∈ wsX5_generate := by decide +kernel
theorem hin_X5_keptAfterChange_RX0 : ∀ z ∈ u_ws RX0 TX0 6, z ∈ wsX5_keptAfterChange := by decide +kernel
theorem hin_X5_keptAfterChange_RX5 : ∀ z ∈ u_ws RX5 TX5 5, z ∈ wsX5_keptAfterChange := by decide +kernel
theorem hin_X5_lead_RX5 : ∀ z ∈ u_ws RX5 TX5 5, z ∈ wsX5_lead := by decide +kernel
theorem hin_X5_mutate_RX0 : ∀ z ∈ u_ws RX0 TX0 6, z ∈ wsX5_mutate := by decide +kernel
theorem hin_X5_mutate_RX5 : ∀ z ∈ u_ws RX5 TX5 5, z ∈ wsX5_mutate := by decide +kernel
theorem hin_X5_tasteOf_RX5 : ∀ z ∈ u_ws RX5 TX5 5, z ∈ wsX5_tasteOf := by decide +kernel
theorem hin_X5_weights_RX5 : ∀ z ∈ u_ws RX5 TX5 5, z ∈ wsX5_weights := by decide +kernel
theorem ks_mt_lt {d t : Nat} (h : t < 10000) : ks_mt d t < 10000 := ks_wv_lt h (Nat.mod_lt _ (by decide))
theorem ks_be_cong {F G : Nat → Int64} {S : Int64} {mu : Nat → Nat} {n : Nat} (hn : n < 40) (hS : ks_SK n S) (hF : ∀ i, i < n → F i = G i) : ks_be F S mu n = ks_be G S mu n := by
  have key : ∀ k, k ≤ n → ks_be F S mu k = ks_be G S mu k := by
    intro k
    induction k with
    | zero => intro _; rfl
    | succ k ih =>
      intro hk
      unfold ks_be
      rw [ih (by omega), show ks_en F S mu k = ks_en G S mu k from by unfold ks_en; rw [ks_al_cong hS hF (hF k (by omega)) (by omega)]]
  exact key n (Nat.le_refl n)
theorem ks_sub1N {b : Nat} (h : 0 < b) : nI b - 1 = nI (b - 1) := pk_sub (a := b) (b := 1) h
theorem nI_nem2 {n : Nat} (h : n < 64) : ¬ nI n = -1 := co64 (P := fun n => ¬ nI n = -1) (by decide +kernel) h
