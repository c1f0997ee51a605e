/-! the bench: found -/
theorem kd_X6_relation : yX6_relation.cls ≠ "java/lang/invoke/MethodHandle" ∧ yX6_relation.cls ≠ "java/lang/invoke/VarHandle" ∧ (parseMethodDescriptor yX6_relation.desc).map (fun d => d.parameters.length) = some 0 := by decide +kernel
theorem LI_ac {P : Pg} {W : Wg} {sd : Nat} {t mu : Nat → Nat} {n : Nat} {S : Int64} {Q : Rg} {rc ac ac' : Nat} {f0 f1 : Nat → Int32} {F : Nat → Int64} (h : ks_LI P W sd t mu n S Q rc ac f0 f1 F) (hac : ac ≤ ac') : ks_LI P W sd t mu n S Q rc ac' f0 f1 F := by
  obtain ⟨h1, h2, h3, h4, h5, h6, h7, h8, h9, h10, h11⟩ := h
  exact ⟨h1, h2, h3, h4, h5, h6, h7, fun i => Nat.le_trans (h8 i) hac, h9, h10, h11⟩
