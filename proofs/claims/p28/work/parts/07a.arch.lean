/-! the class: archive -/
theorem kd_X0_energyOf : yX0_energyOf.cls ≠ "java/lang/invoke/MethodHandle" ∧ yX0_energyOf.cls ≠ "java/lang/invoke/VarHandle" ∧ (parseMethodDescriptor yX0_energyOf.desc).map (fun d => d.parameters.length) = some 1 := by decide +kernel
theorem kd_X0_foundAloneBy : yX0_foundAloneBy.cls ≠ "java/lang/invoke/MethodHandle" ∧ yX0_foundAloneBy.cls ≠ "java/lang/invoke/VarHandle" ∧ (parseMethodDescriptor yX0_foundAloneBy.desc).map (fun d => d.parameters.length) = some 2 := by decide +kernel
theorem kd_X0_foundBy : yX0_foundBy.cls ≠ "java/lang/invoke/MethodHandle" ∧ yX0_foundBy.cls ≠ "java/lang/invoke/VarHandle" ∧ (parseMethodDescriptor yX0_foundBy.desc).map (fun d => d.parameters.length) = some 1 := by decide +kernel
theorem kd_X0_isKept : yX0_isKept.cls ≠ "java/lang/invoke/MethodHandle" ∧ yX0_isKept.cls ≠ "java/lang/invoke/VarHandle" ∧ (parseMethodDescriptor yX0_isKept.desc).map (fun d => d.parameters.length) = some 1 := by decide +kernel
theorem kd_X0_neededOf : yX0_neededOf.cls ≠ "java/lang/invoke/MethodHandle" ∧ yX0_neededOf.cls ≠ "java/lang/invoke/VarHandle" ∧ (parseMethodDescriptor yX0_neededOf.desc).map (fun d => d.parameters.length) = some 1 := by decide +kernel
theorem kd_X5_edgesIn : yX5_edgesIn.cls ≠ "java/lang/invoke/MethodHandle" ∧ yX5_edgesIn.cls ≠ "java/lang/invoke/VarHandle" ∧ (parseMethodDescriptor yX5_edgesIn.desc).map (fun d => d.parameters.length) = some 1 := by decide +kernel
theorem hin_X0_allKnown_RX0 : ∀ z ∈ u_ws RX0 TX0 6, z ∈ wsX0_allKnown := by decide +kernel
theorem hin_X0_coverersOf_RX0 : ∀ z ∈ u_ws RX0 TX0 6, z ∈ wsX0_coverersOf := by decide +kernel
theorem hin_X0_energyOf_RX0 : ∀ z ∈ u_ws RX0 TX0 6, z ∈ wsX0_energyOf := by decide +kernel
theorem hin_X0_foundAloneBy_RX0 : ∀ z ∈ u_ws RX0 TX0 6, z ∈ wsX0_foundAloneBy := by decide +kernel
theorem hin_X0_foundBy_RX0 : ∀ z ∈ u_ws RX0 TX0 6, z ∈ wsX0_foundBy := by decide +kernel
theorem hin_X0_isKept_RX0 : ∀ z ∈ u_ws RX0 TX0 6, z ∈ wsX0_isKept := by decide +kernel
theorem hin_X0_mostEnergetic_RX0 : ∀ z ∈ u_ws RX0 TX0 6, z ∈ wsX0_mostEnergetic := by decide +kernel
theorem hin_X0_note_RX0 : ∀ z ∈ u_ws RX0 TX0 6, z ∈ wsX0_note := by decide +kernel
theorem hin_X0_note_RX4 : ∀ z ∈ u_ws RX4 TX4 4, z ∈ wsX0_note := by decide +kernel
theorem hin_X0_numberOf_RX0 : ∀ z ∈ u_ws RX0 TX0 6, z ∈ wsX0_numberOf := by decide +kernel
theorem hin_X0_settle_RX0 : ∀ z ∈ u_ws RX0 TX0 6, z ∈ wsX0_settle := by decide +kernel
theorem hin_X0_wholeEnergy_RX0 : ∀ z ∈ u_ws RX0 TX0 6, z ∈ wsX0_wholeEnergy := by decide +kernel
theorem nr_b (b : Bool) : narrow .boolean (.int (bI b)) = .int (bI b) := by cases b <;> rfl
theorem ks_sub1 (a : Int32) : a + 1 - 1 = a := by
  apply Int32.toBitVec_inj.mp
  rw [Int32.toBitVec_sub, Int32.toBitVec_add]
  exact BitVec.add_sub_cancel _ _
theorem ks_be_no {F : Nat → Int64} {S : Int64} {mu : Nat → Nat} {k : Nat} (h : hasB S k = false) : ks_be F S mu (k + 1) = ks_be F S mu k := by
  show (if hasB S k && decide ((ks_be F S mu k).2 < ks_en F S mu k + 1) then _ else _) = _
  rw [h]; rfl
theorem ks_m1T {b : Nat} (hb : b < 1000) : (nI b - 1).toInt = (b : Int) - 1 := pk_sub_toInt (a := b) (b := 1) (by omega) (by decide)
theorem ks_be_le0 {F : Nat → Int64} {S : Int64} {mu : Nat → Nat} {k : Nat} (h : nI (ks_en F S mu k) ≤ nI (ks_be F S mu k).2 - 1) : ks_be F S mu (k + 1) = ks_be F S mu k := by
  have h1 := ks_be_le F S mu k
  have h2 := ks_en_le F S mu k
  rw [Int32.le_iff_toInt_le, ks_m1T (by omega), nI_toInt (by omega)] at h
  show (if hasB S k && decide ((ks_be F S mu k).2 < ks_en F S mu k + 1) then _ else _) = _
  rw [decide_eq_false (by omega), Bool.and_false]
  rfl
theorem ks_be_yes {F : Nat → Int64} {S : Int64} {mu : Nat → Nat} {k : Nat} (h0 : hasB S k = true) (h : ¬ nI (ks_en F S mu k) ≤ nI (ks_be F S mu k).2 - 1) : ks_be F S mu (k + 1) = (k + 1, ks_en F S mu k + 1) := by
  have h1 := ks_be_le F S mu k
  have h2 := ks_en_le F S mu k
  rw [Int32.le_iff_toInt_le, ks_m1T (by omega), nI_toInt (by omega)] at h
  show (if hasB S k && decide ((ks_be F S mu k).2 < ks_en F S mu k + 1) then _ else _) = _
  rw [decide_eq_true (by omega), h0]
  rfl
