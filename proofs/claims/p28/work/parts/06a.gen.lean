/-! the class: generator -/
theorem kd_X1_drawnBelow : yX1_drawnBelow.cls ≠ "java/lang/invoke/MethodHandle" ∧ yX1_drawnBelow.cls ≠ "java/lang/invoke/VarHandle" ∧ (parseMethodDescriptor yX1_drawnBelow.desc).map (fun d => d.parameters.length) = some 1 := by decide +kernel
theorem kd_X1_nextValue : yX1_nextValue.cls ≠ "java/lang/invoke/MethodHandle" ∧ yX1_nextValue.cls ≠ "java/lang/invoke/VarHandle" ∧ (parseMethodDescriptor yX1_nextValue.desc).map (fun d => d.parameters.length) = some 1 := by decide +kernel
theorem kd_X1_weightOf : yX1_weightOf.cls ≠ "java/lang/invoke/MethodHandle" ∧ yX1_weightOf.cls ≠ "java/lang/invoke/VarHandle" ∧ (parseMethodDescriptor yX1_weightOf.desc).map (fun d => d.parameters.length) = some 1 := by decide +kernel
theorem kd_X5_withValue : yX5_withValue.cls ≠ "java/lang/invoke/MethodHandle" ∧ yX5_withValue.cls ≠ "java/lang/invoke/VarHandle" ∧ (parseMethodDescriptor yX5_withValue.desc).map (fun d => d.parameters.length) = some 3 := by decide +kernel
theorem hin_X1_drawnBelow_RX1 : ∀ z ∈ u_ws RX1 TX1 4, z ∈ wsX1_drawnBelow := by decide +kernel
theorem hin_X1_nextValue_RX1 : ∀ z ∈ u_ws RX1 TX1 4, z ∈ wsX1_nextValue := by decide +kernel
theorem hin_X1_setWeights_RX1 : ∀ z ∈ u_ws RX1 TX1 4, z ∈ wsX1_setWeights := by decide +kernel
theorem hin_X1_weightOf_RX1 : ∀ z ∈ u_ws RX1 TX1 4, z ∈ wsX1_weightOf := by decide +kernel
def ks_setW (W : Wg) (s a b c : Nat) : Wg := (updN W.1 s a, updN W.2.1 s b, updN W.2.2 s c)
theorem ks_mt_eq {sd t v : Nat} (h : v = (ks_dg t (ks_dr sd / 100 % 4) + 1 + ks_dr (ks_dr sd) / 100 % 9) % 10) : ks_wv t (ks_dr sd / 100 % 4) v = ks_mt sd t := by rw [h]; rfl
theorem ks_setW_W {W : Wg} (h : ks_WW W) {s a b c : Nat} (h1 : a < 10) (h2 : b < 10) (h3 : c < 10) : ks_WW (ks_setW W s a b c) := fun i hi => ⟨updN_le (h i hi).1 h1, updN_le (h i hi).2.1 h2, updN_le (h i hi).2.2 h3⟩
