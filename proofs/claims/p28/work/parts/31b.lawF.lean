/-! the law: the mean -/
theorem kd_X5_meanEnergy : yX5_meanEnergy.cls ≠ "java/lang/invoke/MethodHandle" ∧ yX5_meanEnergy.cls ≠ "java/lang/invoke/VarHandle" ∧ (parseMethodDescriptor yX5_meanEnergy.desc).map (fun d => d.parameters.length) = some 0 := by decide +kernel
theorem we_0 {P : Pg} {t : Nat → Nat} {S : Int64} {mu : Nat → Nat} {n : Nat} (h : ks_bc S = 0) : ks_we (ks_F P t) S mu n = 0 := by
  rw [ks_bc_0] at h
  subst h
  induction n with
  | zero => rfl
  | succ n ih =>
    show ks_we (ks_F P t) 0 mu n + ks_en (ks_F P t) 0 mu n = 0
    rw [ih, en_not (hasB_0 n)]
